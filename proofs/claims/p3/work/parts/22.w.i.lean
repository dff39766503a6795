theorem v_nameHere_l (ns : Nat) (σ : h_S) (hI : h_I σ) {Q : Option Value → h_S → Prop} (kk : ∀ (r : Int32) (b : Int) (hb : r.toInt = b), ((-4) ≤ b ∧ b ≤ 7) → (b = -4 ∨ 0 ≤ b) → Q (some (.int r)) σ) : ∀ n : Nat, (∀ (y1 : Int32) (b1 : Int), y1.toInt = b1 → (0 ≤ b1 ∧ b1 ≤ 8) → (8 + 1 - b1) * 1000000 + 1000000000 ≤ (n : Int) → h_T g_P (g_Y ns) 147 2 [(0, .ref 98), (1, .int y1)] [] σ Q) ∧ (∀ (y1 : Int32) (b1 : Int), y1.toInt = b1 → (0 ≤ b1 ∧ b1 ≤ 7) → ∀ (y2 : Int32) (b2 : Int), y2.toInt = b2 → (0 ≤ b2 ∧ b2 ≤ 1) → ∀ (y3 : Int32) (b3 : Int), y3.toInt = b3 → (0 ≤ b3 ∧ b3 ≤ 160) → (b2 = 0 ∨ σ 98 15 - σ 98 16 = σ 103 (b1 + 1) - σ 103 b1) → ((8 + 1 - b1) - 1) * 1000000 + 1000000000 + (160 + 1 - b3) * 1000 + 100000 ≤ (n : Int) → h_T g_P (g_Y ns) 147 51 [(0, .ref 98), (1, .int y1), (2, .int y2), (3, .int y3)] [] σ Q) := by
  intro n
  induction n with
  | zero => exact ⟨by intro  y1 b1 hy1 ry1 hm; exfalso; omega, by intro  y1 b1 hy1 ry1 y2 b2 hy2 ry2 y3 b3 hy3 ry3 ex0 hm; exfalso; omega⟩
  | succ n ih =>
    refine ⟨?_, ?_⟩
    · intro  y1 b1 hy1 ry1 hm
      refine h_iload_n (pc' := 3) rfl rfl rfl ?_
      refine h_bipush (pc' := 5) (x := (Int32.ofInt 8)) rfl rfl cb_8 ?_
      refine h_cge (tg := 118) (pc' := 8) rfl rfl rfl hy1 ci_8 (fun c1 => ?_) (fun c1 => ?_)
      · refine h_bipush (pc' := 120) (x := (Int32.ofInt (-4))) rfl rfl cb_m4 ?_
        exact h_iret rfl rfl (kk _ _ ci_m4 (by omega) (by omega))
      · refine h_aload_n (pc' := 9) rfl rfl rfl ?_
        refine h_getI (pc' := 12) (v := σ 98 17) rfl rfl rfl rfl rfl rfl (fun z2 hz2 => ?_)
        have tz2 := tf_98_17 hI
        refine h_iconst (pc' := 13) (x := (Int32.ofInt 1)) rfl rfl rfl ?_
        refine h_cne (tg := 118) (pc' := 16) rfl rfl rfl hz2 ci_1 (fun c3 => ?_) (fun c3 => ?_)
        · refine h_bipush (pc' := 120) (x := (Int32.ofInt (-4))) rfl rfl cb_m4 ?_
          exact h_iret rfl rfl (kk _ _ ci_m4 (by omega) (by omega))
        · refine h_aload_n (pc' := 17) rfl rfl rfl ?_
          refine h_getI (pc' := 20) (v := σ 98 15) rfl rfl rfl rfl rfl rfl (fun z4 hz4 => ?_)
          have tz4 := tf_98_15 hI
          refine h_aload_n (pc' := 21) rfl rfl rfl ?_
          refine h_getI (pc' := 24) (v := σ 98 16) rfl rfl rfl rfl rfl rfl (fun z5 hz5 => ?_)
          have tz5 := tf_98_16 hI
          refine h_isub (pc' := 25) rfl rfl hz4 hz5 rfl (by omega) (by omega) (fun z6 hz6 => ?_)
          refine h_aload_n (pc' := 26) rfl rfl rfl ?_
          refine h_getR (pc' := 29) rfl rfl rfl rfl rfl ?_
          refine h_iload_n (pc' := 30) rfl rfl rfl ?_
          refine h_iconst (pc' := 31) (x := (Int32.ofInt 1)) rfl rfl rfl ?_
          refine h_iadd (pc' := 32) rfl rfl hy1 ci_1 rfl (by omega) (by omega) (fun z7 hz7 => ?_)
          refine h_iald (pc' := 33) (v := σ 103 (b1 + 1)) rfl rfl rfl hz7 (by omega) (by omega) rfl (fun z8 hz8 => ?_)
          have tz8 := ty_103 hI (b1 + 1)
          refine h_aload_n (pc' := 34) rfl rfl rfl ?_
          refine h_getR (pc' := 37) rfl rfl rfl rfl rfl ?_
          refine h_iload_n (pc' := 38) rfl rfl rfl ?_
          refine h_iald (pc' := 39) (v := σ 103 b1) rfl rfl rfl hy1 (by omega) (by omega) rfl (fun z9 hz9 => ?_)
          have tz9 := ty_103 hI b1
          refine h_isub (pc' := 40) rfl rfl hz8 hz9 rfl (by omega) (by omega) (fun z10 hz10 => ?_)
          refine h_cne (tg := 47) (pc' := 43) rfl rfl rfl hz6 hz10 (fun c11 => ?_) (fun c11 => ?_)
          · refine h_iconst (pc' := 48) (x := (Int32.ofInt 0)) rfl rfl rfl ?_
            refine h_istore_n (pc' := 49) (M := [(2, .int (Int32.ofInt 0)), (0, .ref 98), (1, .int y1)]) rfl rfl rfl rfl ?_
            refine h_iconst (pc' := 50) (x := (Int32.ofInt 0)) rfl rfl rfl ?_
            refine h_istore_n (pc' := 51) (M := [(3, .int (Int32.ofInt 0)), (2, .int (Int32.ofInt 0)), (0, .ref 98), (1, .int y1)]) rfl rfl rfl rfl ?_
            exact h_wk [(0, .ref 98), (1, .int y1), (2, .int (Int32.ofInt 0)), (3, .int (Int32.ofInt 0))] ⟨rfl, rfl, rfl, rfl, trivial⟩ (ih.2 y1 _ hy1 (by omega) (Int32.ofInt 0) _ ci_0 (by omega) (Int32.ofInt 0) _ ci_0 (by omega) (by omega) (by omega))
          · refine h_iconst (pc' := 44) (x := (Int32.ofInt 1)) rfl rfl rfl ?_
            refine h_goto (pc' := 48) rfl rfl ?_
            refine h_istore_n (pc' := 49) (M := [(2, .int (Int32.ofInt 1)), (0, .ref 98), (1, .int y1)]) rfl rfl rfl rfl ?_
            refine h_iconst (pc' := 50) (x := (Int32.ofInt 0)) rfl rfl rfl ?_
            refine h_istore_n (pc' := 51) (M := [(3, .int (Int32.ofInt 0)), (2, .int (Int32.ofInt 1)), (0, .ref 98), (1, .int y1)]) rfl rfl rfl rfl ?_
            exact h_wk [(0, .ref 98), (1, .int y1), (2, .int (Int32.ofInt 1)), (3, .int (Int32.ofInt 0))] ⟨rfl, rfl, rfl, rfl, trivial⟩ (ih.2 y1 _ hy1 (by omega) (Int32.ofInt 1) _ ci_1 (by omega) (Int32.ofInt 0) _ ci_0 (by omega) (by omega) (by omega))
    · intro  y1 b1 hy1 ry1 y2 b2 hy2 ry2 y3 b3 hy3 ry3 ex0 hm
      refine h_iload_n (pc' := 52) rfl rfl rfl ?_
      refine h_zeq (tg := 106) (pc' := 55) rfl rfl rfl hy2 (fun c1 => ?_) (fun c1 => ?_)
      · refine h_iload_n (pc' := 107) rfl rfl rfl ?_
        refine h_zeq (tg := 112) (pc' := 110) rfl rfl rfl hy2 (fun c2 => ?_) (fun c2 => absurd c2 (by omega))
        refine h_iinc (pc' := 115) (M := fun z3 => [(1, .int z3), (0, .ref 98), (2, .int y2), (3, .int y3)]) rfl rfl rfl rfl hy1 ci_1 rfl (by omega) (by omega) (fun _ => rfl) (fun z3 hz3 => ?_)
        refine h_goto (pc' := 2) rfl rfl ?_
        exact h_wk [(0, .ref 98), (1, .int z3)] ⟨rfl, rfl, trivial⟩ (ih.1 z3 _ hz3 (by omega) (by omega))
      · refine h_iload_n (pc' := 56) rfl rfl rfl ?_
        refine h_aload_n (pc' := 57) rfl rfl rfl ?_
        refine h_getI (pc' := 60) (v := σ 98 15) rfl rfl rfl rfl rfl rfl (fun z4 hz4 => ?_)
        have tz4 := tf_98_15 hI
        refine h_aload_n (pc' := 61) rfl rfl rfl ?_
        refine h_getI (pc' := 64) (v := σ 98 16) rfl rfl rfl rfl rfl rfl (fun z5 hz5 => ?_)
        have tz5 := tf_98_16 hI
        refine h_isub (pc' := 65) rfl rfl hz4 hz5 rfl (by omega) (by omega) (fun z6 hz6 => ?_)
        refine h_cge (tg := 106) (pc' := 68) rfl rfl rfl hy3 hz6 (fun c7 => ?_) (fun c7 => ?_)
        · refine h_iload_n (pc' := 107) rfl rfl rfl ?_
          refine h_zeq (tg := 112) (pc' := 110) rfl rfl rfl hy2 (fun c8 => absurd c8 (by omega)) (fun c8 => ?_)
          refine h_iload_n (pc' := 111) rfl rfl rfl ?_
          exact h_iret rfl rfl (kk _ _ hy1 (by omega) (by omega))
        · refine h_aload_n (pc' := 69) rfl rfl rfl ?_
          refine h_aload_n (pc' := 70) rfl rfl rfl ?_
          refine h_getI (pc' := 73) (v := σ 98 16) rfl rfl rfl rfl rfl rfl (fun z9 hz9 => ?_)
          have tz9 := tf_98_16 hI
          refine h_iload_n (pc' := 74) rfl rfl rfl ?_
          refine h_iadd (pc' := 75) rfl rfl hz9 hy3 rfl (by omega) (by omega) (fun z10 hz10 => ?_)
          refine h_call (sp := false) (pc' := 78) (M := [(0, .ref 98), (1, .int z10)]) rfl rfl rfl rfl rfl rfl rfl rfl ?_
          refine h_iload_n (pc' := 1) rfl rfl rfl ?_
          refine h_aload_n (pc' := 2) rfl rfl rfl ?_
          refine h_getI (pc' := 5) (v := σ 98 11) rfl rfl rfl rfl rfl rfl (fun z11 hz11 => ?_)
          have tz11 := tf_98_11 hI
          refine h_cge (tg := 17) (pc' := 8) rfl rfl rfl hz10 hz11 (fun c12 => ?_) (fun c12 => ?_)
          · refine h_bipush (pc' := 19) (x := (Int32.ofInt (-4))) rfl rfl cb_m4 ?_
            refine h_iret rfl rfl (h_Kv ?_)
            refine h_aload_n (pc' := 79) rfl rfl rfl ?_
            refine h_getR (pc' := 82) rfl rfl rfl rfl rfl ?_
            refine h_aload_n (pc' := 83) rfl rfl rfl ?_
            refine h_getR (pc' := 86) rfl rfl rfl rfl rfl ?_
            refine h_iload_n (pc' := 87) rfl rfl rfl ?_
            refine h_iald (pc' := 88) (v := σ 103 b1) rfl rfl rfl hy1 (by omega) (by omega) rfl (fun z13 hz13 => ?_)
            have tz13 := ty_103 hI b1
            refine h_iload_n (pc' := 89) rfl rfl rfl ?_
            refine h_iadd (pc' := 90) rfl rfl hz13 hy3 rfl (by omega) (by omega) (fun z14 hz14 => ?_)
            refine h_iald (pc' := 91) (v := σ 104 ((σ 103 b1) + b3)) rfl rfl rfl hz14 (by omega) (by omega) rfl (fun z15 hz15 => ?_)
            have tz15 := ty_104 hI ((σ 103 b1) + b3)
            refine h_cne (tg := 98) (pc' := 94) rfl rfl rfl ci_m4 hz15 (fun c16 => ?_) (fun c16 => ?_)
            · refine h_iconst (pc' := 99) (x := (Int32.ofInt 0)) rfl rfl rfl ?_
              refine h_istore_n (pc' := 100) (M := [(2, .int (Int32.ofInt 0)), (0, .ref 98), (1, .int y1), (3, .int y3)]) rfl rfl rfl rfl ?_
              refine h_iinc (pc' := 103) (M := fun z17 => [(3, .int z17), (2, .int (Int32.ofInt 0)), (0, .ref 98), (1, .int y1)]) rfl rfl rfl rfl hy3 ci_1 rfl (by omega) (by omega) (fun _ => rfl) (fun z17 hz17 => ?_)
              refine h_goto (pc' := 51) rfl rfl ?_
              exact h_wk [(0, .ref 98), (1, .int y1), (2, .int (Int32.ofInt 0)), (3, .int z17)] ⟨rfl, rfl, rfl, rfl, trivial⟩ (ih.2 y1 _ hy1 (by omega) (Int32.ofInt 0) _ ci_0 (by omega) z17 _ hz17 (by omega) (by omega) (by omega))
            · refine h_iconst (pc' := 95) (x := (Int32.ofInt 1)) rfl rfl rfl ?_
              refine h_goto (pc' := 99) rfl rfl ?_
              refine h_istore_n (pc' := 100) (M := [(2, .int (Int32.ofInt 1)), (0, .ref 98), (1, .int y1), (3, .int y3)]) rfl rfl rfl rfl ?_
              refine h_iinc (pc' := 103) (M := fun z18 => [(3, .int z18), (2, .int (Int32.ofInt 1)), (0, .ref 98), (1, .int y1)]) rfl rfl rfl rfl hy3 ci_1 rfl (by omega) (by omega) (fun _ => rfl) (fun z18 hz18 => ?_)
              refine h_goto (pc' := 51) rfl rfl ?_
              exact h_wk [(0, .ref 98), (1, .int y1), (2, .int (Int32.ofInt 1)), (3, .int z18)] ⟨rfl, rfl, rfl, rfl, trivial⟩ (ih.2 y1 _ hy1 (by omega) (Int32.ofInt 1) _ ci_1 (by omega) z18 _ hz18 (by omega) (by omega) (by omega))
          · refine h_aload_n (pc' := 9) rfl rfl rfl ?_
            refine h_getR (pc' := 12) rfl rfl rfl rfl rfl ?_
            refine h_iload_n (pc' := 13) rfl rfl rfl ?_
            refine h_iald (pc' := 14) (v := σ 102 ((σ 98 16) + b3)) rfl rfl rfl hz10 (by omega) (by omega) rfl (fun z19 hz19 => ?_)
            have tz19 := ty_102 hI ((σ 98 16) + b3)
            refine h_goto (pc' := 19) rfl rfl ?_
            refine h_iret rfl rfl (h_Kv ?_)
            refine h_aload_n (pc' := 79) rfl rfl rfl ?_
            refine h_getR (pc' := 82) rfl rfl rfl rfl rfl ?_
            refine h_aload_n (pc' := 83) rfl rfl rfl ?_
            refine h_getR (pc' := 86) rfl rfl rfl rfl rfl ?_
            refine h_iload_n (pc' := 87) rfl rfl rfl ?_
            refine h_iald (pc' := 88) (v := σ 103 b1) rfl rfl rfl hy1 (by omega) (by omega) rfl (fun z20 hz20 => ?_)
            have tz20 := ty_103 hI b1
            refine h_iload_n (pc' := 89) rfl rfl rfl ?_
            refine h_iadd (pc' := 90) rfl rfl hz20 hy3 rfl (by omega) (by omega) (fun z21 hz21 => ?_)
            refine h_iald (pc' := 91) (v := σ 104 ((σ 103 b1) + b3)) rfl rfl rfl hz21 (by omega) (by omega) rfl (fun z22 hz22 => ?_)
            have tz22 := ty_104 hI ((σ 103 b1) + b3)
            refine h_cne (tg := 98) (pc' := 94) rfl rfl rfl hz19 hz22 (fun c23 => ?_) (fun c23 => ?_)
            · refine h_iconst (pc' := 99) (x := (Int32.ofInt 0)) rfl rfl rfl ?_
              refine h_istore_n (pc' := 100) (M := [(2, .int (Int32.ofInt 0)), (0, .ref 98), (1, .int y1), (3, .int y3)]) rfl rfl rfl rfl ?_
              refine h_iinc (pc' := 103) (M := fun z24 => [(3, .int z24), (2, .int (Int32.ofInt 0)), (0, .ref 98), (1, .int y1)]) rfl rfl rfl rfl hy3 ci_1 rfl (by omega) (by omega) (fun _ => rfl) (fun z24 hz24 => ?_)
              refine h_goto (pc' := 51) rfl rfl ?_
              exact h_wk [(0, .ref 98), (1, .int y1), (2, .int (Int32.ofInt 0)), (3, .int z24)] ⟨rfl, rfl, rfl, rfl, trivial⟩ (ih.2 y1 _ hy1 (by omega) (Int32.ofInt 0) _ ci_0 (by omega) z24 _ hz24 (by omega) (by omega) (by omega))
            · refine h_iconst (pc' := 95) (x := (Int32.ofInt 1)) rfl rfl rfl ?_
              refine h_goto (pc' := 99) rfl rfl ?_
              refine h_istore_n (pc' := 100) (M := [(2, .int (Int32.ofInt 1)), (0, .ref 98), (1, .int y1), (3, .int y3)]) rfl rfl rfl rfl ?_
              refine h_iinc (pc' := 103) (M := fun z25 => [(3, .int z25), (2, .int (Int32.ofInt 1)), (0, .ref 98), (1, .int y1)]) rfl rfl rfl rfl hy3 ci_1 rfl (by omega) (by omega) (fun _ => rfl) (fun z25 hz25 => ?_)
              refine h_goto (pc' := 51) rfl rfl ?_
              exact h_wk [(0, .ref 98), (1, .int y1), (2, .int (Int32.ofInt 1)), (3, .int z25)] ⟨rfl, rfl, rfl, rfl, trivial⟩ (ih.2 y1 _ hy1 (by omega) (Int32.ofInt 1) _ ci_1 (by omega) z25 _ hz25 (by omega) (by omega) (by omega))
theorem v_nameHere {ns : Nat} (σ : h_S) (hI : h_I σ) {Q : Option Value → h_S → Prop} (kk : ∀ (r : Int32) (b : Int) (hb : r.toInt = b), ((-4) ≤ b ∧ b ≤ 7) → (b = -4 ∨ 0 ≤ b) → Q (some (.int r)) σ) : h_T g_P (g_Y ns) 147 0 [(0, .ref 98)] [] σ Q := by
  have F00 : h_F k_sc σ σ := h_F.rf
  refine h_iconst (pc' := 1) (x := (Int32.ofInt 0)) rfl rfl rfl ?_
  refine h_istore_n (pc' := 2) (M := [(1, .int (Int32.ofInt 0)), (0, .ref 98)]) rfl rfl rfl rfl ?_
  exact h_wk [(0, .ref 98), (1, .int (Int32.ofInt 0))] ⟨rfl, rfl, trivial⟩ ((v_nameHere_l ns σ hI  kk 1000000000000).1 (Int32.ofInt 0) _ ci_0 (by omega) (by omega))
theorem v_step_l (ns : Nat) (σ : h_S) (hI : h_I σ) {Q : Option Value → h_S → Prop} (kk : ∀ (τ : h_S), h_I τ → h_F k_lx τ σ → (σ 98 15 ≤ τ 98 15) → (¬ σ 98 13 = 0 → τ 98 13 = σ 98 13) → (σ 98 13 = 0 → (τ 98 17 = 0 ∨ σ 98 15 < τ 98 15)) → Q none τ) : ∀ n : Nat, (∀ (s0 : h_S), h_I s0 → h_F k_lx s0 σ → (σ 98 15 ≤ s0 98 15) → (s0 98 13 = 0) → (σ 98 13 = 0) → (161 - s0 98 15) + 1000 ≤ (n : Int) → h_T g_P (g_Y ns) 148 8 [(0, .ref 98)] [] s0 Q) ∧ (∀ (s0 : h_S), h_I s0 → h_F k_lx s0 σ → ∀ (y1 : Int32) (b1 : Int), y1.toInt = b1 → (97 ≤ b1 ∧ b1 ≤ 122) → (σ 98 15 ≤ s0 98 16) → (s0 98 16 < s0 98 15) → (s0 98 13 = 0) → (σ 98 13 = 0) → (161 - s0 98 15) ≤ (n : Int) → h_T g_P (g_Y ns) 148 84 [(0, .ref 98), (1, .int y1)] [] s0 Q) ∧ (∀ (s0 : h_S), h_I s0 → h_F k_lx s0 σ → ∀ (y1 : Int32) (b1 : Int), y1.toInt = b1 → (48 ≤ b1 ∧ b1 ≤ 57) → (σ 98 15 ≤ s0 98 16) → (s0 98 16 < s0 98 15) → (s0 98 13 = 0) → (σ 98 13 = 0) → (s0 98 15 - s0 98 16 = 1 → s0 98 18 ≤ 9) → (161 - s0 98 15) ≤ (n : Int) → h_T g_P (g_Y ns) 148 140 [(0, .ref 98), (1, .int y1)] [] s0 Q) := by
  intro n
  induction n with
  | zero => exact ⟨by intro s0 I0 F0_ ex0 ex1 ex2 hm; exfalso; omega, by intro s0 I0 F0_ y1 b1 hy1 ry1 ex0 ex1 ex2 ex3 hm; exfalso; omega, by intro s0 I0 F0_ y1 b1 hy1 ry1 ex0 ex1 ex2 ex3 ex4 hm; exfalso; omega⟩
  | succ n ih =>
    refine ⟨?_, ?_, ?_⟩
    · intro s0 I0 F0_ ex0 ex1 ex2 hm
      refine h_aload_n (pc' := 9) rfl rfl rfl ?_
      refine h_aload_n (pc' := 10) rfl rfl rfl ?_
      refine h_getI (pc' := 13) (v := s0 98 15) rfl rfl rfl rfl rfl rfl (fun z1 hz1 => ?_)
      have tz1 := tf_98_15 I0
      refine h_call (sp := false) (pc' := 16) (M := [(0, .ref 98), (1, .int z1)]) rfl rfl rfl rfl rfl rfl rfl rfl ?_
      refine h_iload_n (pc' := 1) rfl rfl rfl ?_
      refine h_aload_n (pc' := 2) rfl rfl rfl ?_
      refine h_getI (pc' := 5) (v := σ 98 11) rfl rfl rfl rfl rfl (F0_ 98 11 rfl) (fun z2 hz2 => ?_)
      have tz2 := tf_98_11 hI
      refine h_cge (tg := 17) (pc' := 8) rfl rfl rfl hz1 hz2 (fun c3 => ?_) (fun c3 => ?_)
      · refine h_bipush (pc' := 19) (x := (Int32.ofInt (-4))) rfl rfl cb_m4 ?_
        refine h_iret rfl rfl (h_Kv ?_)
        refine h_bipush (pc' := 18) (x := (Int32.ofInt 32)) rfl rfl cb_32 ?_
        refine h_cne (tg := 34) (pc' := 21) rfl rfl rfl ci_m4 ci_32 (fun c4 => ?_) (fun c4 => absurd c4 (by omega))
        refine h_aload_n (pc' := 35) rfl rfl rfl ?_
        refine h_aload_n (pc' := 36) rfl rfl rfl ?_
        refine h_getI (pc' := 39) (v := s0 98 15) rfl rfl rfl rfl rfl rfl (fun z5 hz5 => ?_)
        have tz5 := tf_98_15 I0
        refine h_put (pc' := 42) rfl rfl rfl rfl rfl rfl hz5 rfl ?_
        have Is6 : h_I (h_up s0 98 16 (s0 98 15)) := (if_98_16 I0 (by omega))
        have Fs6 := (F0_.up (q := 98) (a := 16) (v := (s0 98 15)) rfl)
        have es6_0 : h_up s0 98 16 (s0 98 15) 98 15 = s0 98 15 := rfl
        have es6_1 : h_up s0 98 16 (s0 98 15) 98 16 = (s0 98 15) := rfl
        have es6_2 : h_up s0 98 16 (s0 98 15) 98 17 = s0 98 17 := rfl
        have es6_3 : h_up s0 98 16 (s0 98 15) 98 18 = s0 98 18 := rfl
        have es6_4 : h_up s0 98 16 (s0 98 15) 98 13 = s0 98 13 := rfl
        generalize h_up s0 98 16 (s0 98 15) = s6 at Is6 Fs6 es6_0 es6_1 es6_2 es6_3 es6_4 ⊢
        refine h_aload_n (pc' := 43) rfl rfl rfl ?_
        refine h_aload_n (pc' := 44) rfl rfl rfl ?_
        refine h_getI (pc' := 47) (v := s6 98 15) rfl rfl rfl rfl rfl rfl (fun z7 hz7 => ?_)
        have tz7 := tf_98_15 Is6
        refine h_call (sp := false) (pc' := 50) (M := [(0, .ref 98), (1, .int z7)]) rfl rfl rfl rfl rfl rfl rfl rfl ?_
        refine h_iload_n (pc' := 1) rfl rfl rfl ?_
        refine h_aload_n (pc' := 2) rfl rfl rfl ?_
        refine h_getI (pc' := 5) (v := σ 98 11) rfl rfl rfl rfl rfl (Fs6 98 11 rfl) (fun z8 hz8 => ?_)
        have tz8 := tf_98_11 hI
        refine h_cge (tg := 17) (pc' := 8) rfl rfl rfl hz7 hz8 (fun c9 => ?_) (fun c9 => ?_)
        · refine h_bipush (pc' := 19) (x := (Int32.ofInt (-4))) rfl rfl cb_m4 ?_
          refine h_iret rfl rfl (h_Kv ?_)
          refine h_istore_n (pc' := 51) (M := [(1, .int (Int32.ofInt (-4))), (0, .ref 98)]) rfl rfl rfl rfl ?_
          refine h_aload_n (pc' := 52) rfl rfl rfl ?_
          refine h_iconst (pc' := 53) (x := (Int32.ofInt 0)) rfl rfl rfl ?_
          refine h_put (pc' := 56) rfl rfl rfl rfl rfl rfl ci_0 rfl ?_
          have Is10 : h_I (h_up s6 98 18 0) := (if_98_18 Is6 (by omega))
          have Fs10 := (Fs6.up (q := 98) (a := 18) (v := 0) rfl)
          have es10_0 : h_up s6 98 18 0 98 15 = s6 98 15 := rfl
          have es10_1 : h_up s6 98 18 0 98 16 = s6 98 16 := rfl
          have es10_2 : h_up s6 98 18 0 98 17 = s6 98 17 := rfl
          have es10_3 : h_up s6 98 18 0 98 18 = 0 := rfl
          have es10_4 : h_up s6 98 18 0 98 13 = s6 98 13 := rfl
          generalize h_up s6 98 18 0 = s10 at Is10 Fs10 es10_0 es10_1 es10_2 es10_3 es10_4 ⊢
          refine h_iload_n (pc' := 57) rfl rfl rfl ?_
          refine h_bipush (pc' := 59) (x := (Int32.ofInt (-4))) rfl rfl cb_m4 ?_
          refine h_cne (tg := 70) (pc' := 62) rfl rfl rfl ci_m4 ci_m4 (fun c11 => absurd c11 (by omega)) (fun c11 => ?_)
          refine h_aload_n (pc' := 63) rfl rfl rfl ?_
          refine h_iconst (pc' := 64) (x := (Int32.ofInt 0)) rfl rfl rfl ?_
          refine h_put (pc' := 67) rfl rfl rfl rfl rfl rfl ci_0 rfl ?_
          have Is12 : h_I (h_up s10 98 17 0) := (if_98_17 Is10 (by omega))
          have Fs12 := (Fs10.up (q := 98) (a := 17) (v := 0) rfl)
          have es12_0 : h_up s10 98 17 0 98 15 = s10 98 15 := rfl
          have es12_1 : h_up s10 98 17 0 98 16 = s10 98 16 := rfl
          have es12_2 : h_up s10 98 17 0 98 17 = 0 := rfl
          have es12_3 : h_up s10 98 17 0 98 18 = s10 98 18 := rfl
          have es12_4 : h_up s10 98 17 0 98 13 = s10 98 13 := rfl
          generalize h_up s10 98 17 0 = s12 at Is12 Fs12 es12_0 es12_1 es12_2 es12_3 es12_4 ⊢
          refine h_goto (pc' := 269) rfl rfl ?_
          exact h_vret rfl rfl (kk _ Is12 Fs12 (by omega) (by omega) (by omega))
        · refine h_aload_n (pc' := 9) rfl rfl rfl ?_
          refine h_getR (pc' := 12) rfl rfl rfl rfl rfl ?_
          refine h_iload_n (pc' := 13) rfl rfl rfl ?_
          refine h_iald (pc' := 14) (v := σ 102 (s6 98 15)) rfl rfl rfl hz7 (by omega) (by omega) (Fs6 102 _ rfl) (fun z13 hz13 => ?_)
          have tz13 := ty_102 hI (s6 98 15)
          refine h_goto (pc' := 19) rfl rfl ?_
          refine h_iret rfl rfl (h_Kv ?_)
          refine h_istore_n (pc' := 51) (M := [(1, .int z13), (0, .ref 98)]) rfl rfl rfl rfl ?_
          refine h_aload_n (pc' := 52) rfl rfl rfl ?_
          refine h_iconst (pc' := 53) (x := (Int32.ofInt 0)) rfl rfl rfl ?_
          refine h_put (pc' := 56) rfl rfl rfl rfl rfl rfl ci_0 rfl ?_
          have Is14 : h_I (h_up s6 98 18 0) := (if_98_18 Is6 (by omega))
          have Fs14 := (Fs6.up (q := 98) (a := 18) (v := 0) rfl)
          have es14_0 : h_up s6 98 18 0 98 15 = s6 98 15 := rfl
          have es14_1 : h_up s6 98 18 0 98 16 = s6 98 16 := rfl
          have es14_2 : h_up s6 98 18 0 98 17 = s6 98 17 := rfl
          have es14_3 : h_up s6 98 18 0 98 18 = 0 := rfl
          have es14_4 : h_up s6 98 18 0 98 13 = s6 98 13 := rfl
          generalize h_up s6 98 18 0 = s14 at Is14 Fs14 es14_0 es14_1 es14_2 es14_3 es14_4 ⊢
          refine h_iload_n (pc' := 57) rfl rfl rfl ?_
          refine h_bipush (pc' := 59) (x := (Int32.ofInt (-4))) rfl rfl cb_m4 ?_
          refine h_cne (tg := 70) (pc' := 62) rfl rfl rfl hz13 ci_m4 (fun c15 => ?_) (fun c15 => absurd c15 (by omega))
          refine h_iload_n (pc' := 71) rfl rfl rfl ?_
          refine h_i2l (pc' := 72) rfl rfl hz13 (fun z16 hz16 => ?_)
          refine h_ldc2 (pc' := 75) (x := (Int64.ofInt 97)) rfl rfl rfl ?_
          refine h_ldc2 (pc' := 78) (x := (Int64.ofInt 122)) rfl rfl rfl ?_
          refine h_calls (pc' := 81) (M := [(0, .long z16), (2, .long (Int64.ofInt 97)), (4, .long (Int64.ofInt 122))]) rfl rfl rfl rfl rfl rfl ?_
          refine h_lload_n (pc' := 1) rfl rfl rfl ?_
          refine h_lload_n (pc' := 2) rfl rfl rfl ?_
          refine h_lcmp (pc' := 3) rfl rfl hz16 cl_97 (fun z17 hz17 => ?_)
          refine h_zlt (tg := 17) (pc' := 6) rfl rfl rfl rfl (fun c18 => ?_) (fun c18 => ?_)
          · refine h_iconst (pc' := 18) (x := (Int32.ofInt 0)) rfl rfl rfl ?_
            refine h_zret rfl rfl ci_0 (by omega) (h_Kv ?_)
            refine h_zeq (tg := 126) (pc' := 84) rfl rfl rfl ci_0 (fun c19 => ?_) (fun c19 => absurd c19 (by omega))
            refine h_iload_n (pc' := 127) rfl rfl rfl ?_
            refine h_i2l (pc' := 128) rfl rfl hz13 (fun z20 hz20 => ?_)
            refine h_ldc2 (pc' := 131) (x := (Int64.ofInt 48)) rfl rfl rfl ?_
            refine h_ldc2 (pc' := 134) (x := (Int64.ofInt 57)) rfl rfl rfl ?_
            refine h_calls (pc' := 137) (M := [(0, .long z20), (2, .long (Int64.ofInt 48)), (4, .long (Int64.ofInt 57))]) rfl rfl rfl rfl rfl rfl ?_
            refine h_lload_n (pc' := 1) rfl rfl rfl ?_
            refine h_lload_n (pc' := 2) rfl rfl rfl ?_
            refine h_lcmp (pc' := 3) rfl rfl hz20 cl_48 (fun z21 hz21 => ?_)
            refine h_zlt (tg := 17) (pc' := 6) rfl rfl rfl rfl (fun c22 => ?_) (fun c22 => ?_)
            · refine h_iconst (pc' := 18) (x := (Int32.ofInt 0)) rfl rfl rfl ?_
              refine h_zret rfl rfl ci_0 (by omega) (h_Kv ?_)
              refine h_zeq (tg := 243) (pc' := 140) rfl rfl rfl ci_0 (fun c23 => ?_) (fun c23 => absurd c23 (by omega))
              refine h_aload_n (pc' := 244) rfl rfl rfl ?_
              refine h_iconst (pc' := 245) (x := (Int32.ofInt 3)) rfl rfl rfl ?_
              refine h_put (pc' := 248) rfl rfl rfl rfl rfl rfl ci_3 rfl ?_
              have Is24 : h_I (h_up s14 98 17 3) := (if_98_17 Is14 (by omega))
              have Fs24 := (Fs14.up (q := 98) (a := 17) (v := 3) rfl)
              have es24_0 : h_up s14 98 17 3 98 15 = s14 98 15 := rfl
              have es24_1 : h_up s14 98 17 3 98 16 = s14 98 16 := rfl
              have es24_2 : h_up s14 98 17 3 98 17 = 3 := rfl
              have es24_3 : h_up s14 98 17 3 98 18 = s14 98 18 := rfl
              have es24_4 : h_up s14 98 17 3 98 13 = s14 98 13 := rfl
              generalize h_up s14 98 17 3 = s24 at Is24 Fs24 es24_0 es24_1 es24_2 es24_3 es24_4 ⊢
              refine h_aload_n (pc' := 249) rfl rfl rfl ?_
              refine h_dup (pc' := 250) rfl rfl rfl ?_
              refine h_getI (pc' := 253) (v := s24 98 15) rfl rfl rfl rfl rfl rfl (fun z25 hz25 => ?_)
              have tz25 := tf_98_15 Is24
              refine h_iconst (pc' := 254) (x := (Int32.ofInt 1)) rfl rfl rfl ?_
              refine h_iadd (pc' := 255) rfl rfl hz25 ci_1 rfl (by omega) (by omega) (fun z26 hz26 => ?_)
              refine h_put (pc' := 258) rfl rfl rfl rfl rfl rfl hz26 rfl ?_
              have Is27 : h_I (h_up s24 98 15 ((s24 98 15) + 1)) := (if_98_15 Is24 (by omega))
              have Fs27 := (Fs24.up (q := 98) (a := 15) (v := ((s24 98 15) + 1)) rfl)
              have es27_0 : h_up s24 98 15 ((s24 98 15) + 1) 98 15 = ((s24 98 15) + 1) := rfl
              have es27_1 : h_up s24 98 15 ((s24 98 15) + 1) 98 16 = s24 98 16 := rfl
              have es27_2 : h_up s24 98 15 ((s24 98 15) + 1) 98 17 = s24 98 17 := rfl
              have es27_3 : h_up s24 98 15 ((s24 98 15) + 1) 98 18 = s24 98 18 := rfl
              have es27_4 : h_up s24 98 15 ((s24 98 15) + 1) 98 13 = s24 98 13 := rfl
              generalize h_up s24 98 15 ((s24 98 15) + 1) = s27 at Is27 Fs27 es27_0 es27_1 es27_2 es27_3 es27_4 ⊢
              refine h_iload_n (pc' := 259) rfl rfl rfl ?_
              refine h_bipush (pc' := 261) (x := (Int32.ofInt 59)) rfl rfl cb_59 ?_
              refine h_ceq (tg := 269) (pc' := 264) rfl rfl rfl hz13 ci_59 (fun c28 => absurd c28 (by omega)) (fun c28 => ?_)
              refine h_aload_n (pc' := 265) rfl rfl rfl ?_
              refine h_iconst (pc' := 266) (x := (Int32.ofInt 1)) rfl rfl rfl ?_
              refine h_call (sp := false) (pc' := 269) (M := [(0, .ref 98), (1, .int (Int32.ofInt 1))]) rfl rfl rfl rfl rfl rfl rfl rfl ?_
              refine h_aload_n (pc' := 1) rfl rfl rfl ?_
              refine h_getI (pc' := 4) (v := s27 98 13) rfl rfl rfl rfl rfl rfl (fun z29 hz29 => ?_)
              have tz29 := tf_98_13 Is27
              refine h_zne (tg := 20) (pc' := 7) rfl rfl rfl hz29 (fun c30 => ?_) (fun c30 => ?_)
              · refine h_vret rfl rfl (h_Kn ?_)
                exact h_vret rfl rfl (kk _ Is27 Fs27 (by omega) (by omega) (by omega))
              · refine h_aload_n (pc' := 8) rfl rfl rfl ?_
                refine h_iload_n (pc' := 9) rfl rfl rfl ?_
                refine h_put (pc' := 12) rfl rfl rfl rfl rfl rfl ci_1 rfl ?_
                have Is31 : h_I (h_up s27 98 13 1) := (if_98_13 Is27 (by omega))
                have Fs31 := (Fs27.up (q := 98) (a := 13) (v := 1) rfl)
                have es31_0 : h_up s27 98 13 1 98 15 = s27 98 15 := rfl
                have es31_1 : h_up s27 98 13 1 98 16 = s27 98 16 := rfl
                have es31_2 : h_up s27 98 13 1 98 17 = s27 98 17 := rfl
                have es31_3 : h_up s27 98 13 1 98 18 = s27 98 18 := rfl
                have es31_4 : h_up s27 98 13 1 98 13 = 1 := rfl
                generalize h_up s27 98 13 1 = s31 at Is31 Fs31 es31_0 es31_1 es31_2 es31_3 es31_4 ⊢
                refine h_aload_n (pc' := 13) rfl rfl rfl ?_
                refine h_aload_n (pc' := 14) rfl rfl rfl ?_
                refine h_getI (pc' := 17) (v := s31 98 16) rfl rfl rfl rfl rfl rfl (fun z32 hz32 => ?_)
                have tz32 := tf_98_16 Is31
                refine h_put (pc' := 20) rfl rfl rfl rfl rfl rfl hz32 rfl ?_
                have Is33 : h_I (h_up s31 98 14 (s31 98 16)) := (if_98_14 Is31 (h_rgv hz32))
                have Fs33 := (Fs31.up (q := 98) (a := 14) (v := (s31 98 16)) rfl)
                have es33_0 : h_up s31 98 14 (s31 98 16) 98 15 = s31 98 15 := rfl
                have es33_1 : h_up s31 98 14 (s31 98 16) 98 16 = s31 98 16 := rfl
                have es33_2 : h_up s31 98 14 (s31 98 16) 98 17 = s31 98 17 := rfl
                have es33_3 : h_up s31 98 14 (s31 98 16) 98 18 = s31 98 18 := rfl
                have es33_4 : h_up s31 98 14 (s31 98 16) 98 13 = s31 98 13 := rfl
                generalize h_up s31 98 14 (s31 98 16) = s33 at Is33 Fs33 es33_0 es33_1 es33_2 es33_3 es33_4 ⊢
                refine h_vret rfl rfl (h_Kn ?_)
                exact h_vret rfl rfl (kk _ Is33 Fs33 (by omega) (by omega) (by omega))
            · refine h_lload_n (pc' := 7) rfl rfl rfl ?_
              refine h_lload (pc' := 9) rfl rfl rfl ?_
              refine h_lcmp (pc' := 10) rfl rfl hz20 cl_57 (fun z34 hz34 => ?_)
              refine h_zgt (tg := 17) (pc' := 13) rfl rfl rfl rfl (fun c35 => ?_) (fun c35 => ?_)
              · refine h_iconst (pc' := 18) (x := (Int32.ofInt 0)) rfl rfl rfl ?_
                refine h_zret rfl rfl ci_0 (by omega) (h_Kv ?_)
                refine h_zeq (tg := 243) (pc' := 140) rfl rfl rfl ci_0 (fun c36 => ?_) (fun c36 => absurd c36 (by omega))
                refine h_aload_n (pc' := 244) rfl rfl rfl ?_
                refine h_iconst (pc' := 245) (x := (Int32.ofInt 3)) rfl rfl rfl ?_
                refine h_put (pc' := 248) rfl rfl rfl rfl rfl rfl ci_3 rfl ?_
                have Is37 : h_I (h_up s14 98 17 3) := (if_98_17 Is14 (by omega))
                have Fs37 := (Fs14.up (q := 98) (a := 17) (v := 3) rfl)
                have es37_0 : h_up s14 98 17 3 98 15 = s14 98 15 := rfl
                have es37_1 : h_up s14 98 17 3 98 16 = s14 98 16 := rfl
                have es37_2 : h_up s14 98 17 3 98 17 = 3 := rfl
                have es37_3 : h_up s14 98 17 3 98 18 = s14 98 18 := rfl
                have es37_4 : h_up s14 98 17 3 98 13 = s14 98 13 := rfl
                generalize h_up s14 98 17 3 = s37 at Is37 Fs37 es37_0 es37_1 es37_2 es37_3 es37_4 ⊢
                refine h_aload_n (pc' := 249) rfl rfl rfl ?_
                refine h_dup (pc' := 250) rfl rfl rfl ?_
                refine h_getI (pc' := 253) (v := s37 98 15) rfl rfl rfl rfl rfl rfl (fun z38 hz38 => ?_)
                have tz38 := tf_98_15 Is37
                refine h_iconst (pc' := 254) (x := (Int32.ofInt 1)) rfl rfl rfl ?_
                refine h_iadd (pc' := 255) rfl rfl hz38 ci_1 rfl (by omega) (by omega) (fun z39 hz39 => ?_)
                refine h_put (pc' := 258) rfl rfl rfl rfl rfl rfl hz39 rfl ?_
                have Is40 : h_I (h_up s37 98 15 ((s37 98 15) + 1)) := (if_98_15 Is37 (by omega))
                have Fs40 := (Fs37.up (q := 98) (a := 15) (v := ((s37 98 15) + 1)) rfl)
                have es40_0 : h_up s37 98 15 ((s37 98 15) + 1) 98 15 = ((s37 98 15) + 1) := rfl
                have es40_1 : h_up s37 98 15 ((s37 98 15) + 1) 98 16 = s37 98 16 := rfl
                have es40_2 : h_up s37 98 15 ((s37 98 15) + 1) 98 17 = s37 98 17 := rfl
                have es40_3 : h_up s37 98 15 ((s37 98 15) + 1) 98 18 = s37 98 18 := rfl
                have es40_4 : h_up s37 98 15 ((s37 98 15) + 1) 98 13 = s37 98 13 := rfl
                generalize h_up s37 98 15 ((s37 98 15) + 1) = s40 at Is40 Fs40 es40_0 es40_1 es40_2 es40_3 es40_4 ⊢
                refine h_iload_n (pc' := 259) rfl rfl rfl ?_
                refine h_bipush (pc' := 261) (x := (Int32.ofInt 59)) rfl rfl cb_59 ?_
                refine h_ceq (tg := 269) (pc' := 264) rfl rfl rfl hz13 ci_59 (fun c41 => ?_) (fun c41 => ?_)
                · exact h_vret rfl rfl (kk _ Is40 Fs40 (by omega) (by omega) (by omega))
                · refine h_aload_n (pc' := 265) rfl rfl rfl ?_
                  refine h_iconst (pc' := 266) (x := (Int32.ofInt 1)) rfl rfl rfl ?_
                  refine h_call (sp := false) (pc' := 269) (M := [(0, .ref 98), (1, .int (Int32.ofInt 1))]) rfl rfl rfl rfl rfl rfl rfl rfl ?_
                  refine h_aload_n (pc' := 1) rfl rfl rfl ?_
                  refine h_getI (pc' := 4) (v := s40 98 13) rfl rfl rfl rfl rfl rfl (fun z42 hz42 => ?_)
                  have tz42 := tf_98_13 Is40
                  refine h_zne (tg := 20) (pc' := 7) rfl rfl rfl hz42 (fun c43 => ?_) (fun c43 => ?_)
                  · refine h_vret rfl rfl (h_Kn ?_)
                    exact h_vret rfl rfl (kk _ Is40 Fs40 (by omega) (by omega) (by omega))
                  · refine h_aload_n (pc' := 8) rfl rfl rfl ?_
                    refine h_iload_n (pc' := 9) rfl rfl rfl ?_
                    refine h_put (pc' := 12) rfl rfl rfl rfl rfl rfl ci_1 rfl ?_
                    have Is44 : h_I (h_up s40 98 13 1) := (if_98_13 Is40 (by omega))
                    have Fs44 := (Fs40.up (q := 98) (a := 13) (v := 1) rfl)
                    have es44_0 : h_up s40 98 13 1 98 15 = s40 98 15 := rfl
                    have es44_1 : h_up s40 98 13 1 98 16 = s40 98 16 := rfl
                    have es44_2 : h_up s40 98 13 1 98 17 = s40 98 17 := rfl
                    have es44_3 : h_up s40 98 13 1 98 18 = s40 98 18 := rfl
                    have es44_4 : h_up s40 98 13 1 98 13 = 1 := rfl
                    generalize h_up s40 98 13 1 = s44 at Is44 Fs44 es44_0 es44_1 es44_2 es44_3 es44_4 ⊢
                    refine h_aload_n (pc' := 13) rfl rfl rfl ?_
                    refine h_aload_n (pc' := 14) rfl rfl rfl ?_
                    refine h_getI (pc' := 17) (v := s44 98 16) rfl rfl rfl rfl rfl rfl (fun z45 hz45 => ?_)
                    have tz45 := tf_98_16 Is44
                    refine h_put (pc' := 20) rfl rfl rfl rfl rfl rfl hz45 rfl ?_
                    have Is46 : h_I (h_up s44 98 14 (s44 98 16)) := (if_98_14 Is44 (h_rgv hz45))
                    have Fs46 := (Fs44.up (q := 98) (a := 14) (v := (s44 98 16)) rfl)
                    have es46_0 : h_up s44 98 14 (s44 98 16) 98 15 = s44 98 15 := rfl
                    have es46_1 : h_up s44 98 14 (s44 98 16) 98 16 = s44 98 16 := rfl
                    have es46_2 : h_up s44 98 14 (s44 98 16) 98 17 = s44 98 17 := rfl
                    have es46_3 : h_up s44 98 14 (s44 98 16) 98 18 = s44 98 18 := rfl
                    have es46_4 : h_up s44 98 14 (s44 98 16) 98 13 = s44 98 13 := rfl
                    generalize h_up s44 98 14 (s44 98 16) = s46 at Is46 Fs46 es46_0 es46_1 es46_2 es46_3 es46_4 ⊢
                    refine h_vret rfl rfl (h_Kn ?_)
                    exact h_vret rfl rfl (kk _ Is46 Fs46 (by omega) (by omega) (by omega))
              · refine h_iconst (pc' := 14) (x := (Int32.ofInt 1)) rfl rfl rfl ?_
                refine h_goto (pc' := 18) rfl rfl ?_
                refine h_zret rfl rfl ci_1 (by omega) (h_Kv ?_)
                refine h_zeq (tg := 243) (pc' := 140) rfl rfl rfl ci_1 (fun c47 => absurd c47 (by omega)) (fun c47 => ?_)
                refine h_aload_n (pc' := 141) rfl rfl rfl ?_
                refine h_aload_n (pc' := 142) rfl rfl rfl ?_
                refine h_getI (pc' := 145) (v := s14 98 15) rfl rfl rfl rfl rfl rfl (fun z48 hz48 => ?_)
                have tz48 := tf_98_15 Is14
                refine h_call (sp := false) (pc' := 148) (M := [(0, .ref 98), (1, .int z48)]) rfl rfl rfl rfl rfl rfl rfl rfl ?_
                refine h_iload_n (pc' := 1) rfl rfl rfl ?_
                refine h_aload_n (pc' := 2) rfl rfl rfl ?_
                refine h_getI (pc' := 5) (v := σ 98 11) rfl rfl rfl rfl rfl (Fs14 98 11 rfl) (fun z49 hz49 => ?_)
                have tz49 := tf_98_11 hI
                refine h_cge (tg := 17) (pc' := 8) rfl rfl rfl hz48 hz49 (fun c50 => ?_) (fun c50 => ?_)
                · refine h_bipush (pc' := 19) (x := (Int32.ofInt (-4))) rfl rfl cb_m4 ?_
                  refine h_iret rfl rfl (h_Kv ?_)
                  refine h_i2l (pc' := 149) rfl rfl ci_m4 (fun z51 hz51 => ?_)
                  refine h_ldc2 (pc' := 152) (x := (Int64.ofInt 48)) rfl rfl rfl ?_
                  refine h_ldc2 (pc' := 155) (x := (Int64.ofInt 57)) rfl rfl rfl ?_
                  refine h_calls (pc' := 158) (M := [(0, .long z51), (2, .long (Int64.ofInt 48)), (4, .long (Int64.ofInt 57))]) rfl rfl rfl rfl rfl rfl ?_
                  refine h_lload_n (pc' := 1) rfl rfl rfl ?_
                  refine h_lload_n (pc' := 2) rfl rfl rfl ?_
                  refine h_lcmp (pc' := 3) rfl rfl hz51 cl_48 (fun z52 hz52 => ?_)
                  refine h_zlt (tg := 17) (pc' := 6) rfl rfl rfl rfl (fun c53 => ?_) (fun c53 => absurd c53 (by omega))
                  refine h_iconst (pc' := 18) (x := (Int32.ofInt 0)) rfl rfl rfl ?_
                  refine h_zret rfl rfl ci_0 (by omega) (h_Kv ?_)
                  refine h_zeq (tg := 217) (pc' := 161) rfl rfl rfl ci_0 (fun c54 => ?_) (fun c54 => absurd c54 (by omega))
                  refine h_aload_n (pc' := 218) rfl rfl rfl ?_
                  refine h_iconst (pc' := 219) (x := (Int32.ofInt 2)) rfl rfl rfl ?_
                  refine h_put (pc' := 222) rfl rfl rfl rfl rfl rfl ci_2 rfl ?_
                  have Is55 : h_I (h_up s14 98 17 2) := (if_98_17 Is14 (by omega))
                  have Fs55 := (Fs14.up (q := 98) (a := 17) (v := 2) rfl)
                  have es55_0 : h_up s14 98 17 2 98 15 = s14 98 15 := rfl
                  have es55_1 : h_up s14 98 17 2 98 16 = s14 98 16 := rfl
                  have es55_2 : h_up s14 98 17 2 98 17 = 2 := rfl
                  have es55_3 : h_up s14 98 17 2 98 18 = s14 98 18 := rfl
                  have es55_4 : h_up s14 98 17 2 98 13 = s14 98 13 := rfl
                  generalize h_up s14 98 17 2 = s55 at Is55 Fs55 es55_0 es55_1 es55_2 es55_3 es55_4 ⊢
                  refine h_aload_n (pc' := 223) rfl rfl rfl ?_
                  refine h_getI (pc' := 226) (v := s55 98 15) rfl rfl rfl rfl rfl rfl (fun z56 hz56 => ?_)
                  have tz56 := tf_98_15 Is55
                  refine h_aload_n (pc' := 227) rfl rfl rfl ?_
                  refine h_getI (pc' := 230) (v := s55 98 16) rfl rfl rfl rfl rfl rfl (fun z57 hz57 => ?_)
                  have tz57 := tf_98_16 Is55
                  refine h_isub (pc' := 231) rfl rfl hz56 hz57 rfl (by omega) (by omega) (fun z58 hz58 => ?_)
                  refine h_iconst (pc' := 232) (x := (Int32.ofInt 2)) rfl rfl rfl ?_
                  refine h_cle (tg := 269) (pc' := 235) rfl rfl rfl hz58 ci_2 (fun c59 => ?_) (fun c59 => ?_)
                  · exact h_vret rfl rfl (kk _ Is55 Fs55 (by omega) (by omega) (by omega))
                  · refine h_aload_n (pc' := 236) rfl rfl rfl ?_
                    refine h_iconst (pc' := 237) (x := (Int32.ofInt 1)) rfl rfl rfl ?_
                    refine h_call (sp := false) (pc' := 240) (M := [(0, .ref 98), (1, .int (Int32.ofInt 1))]) rfl rfl rfl rfl rfl rfl rfl rfl ?_
                    refine h_aload_n (pc' := 1) rfl rfl rfl ?_
                    refine h_getI (pc' := 4) (v := s55 98 13) rfl rfl rfl rfl rfl rfl (fun z60 hz60 => ?_)
                    have tz60 := tf_98_13 Is55
                    refine h_zne (tg := 20) (pc' := 7) rfl rfl rfl hz60 (fun c61 => ?_) (fun c61 => ?_)
                    · refine h_vret rfl rfl (h_Kn ?_)
                      refine h_goto (pc' := 269) rfl rfl ?_
                      exact h_vret rfl rfl (kk _ Is55 Fs55 (by omega) (by omega) (by omega))
                    · refine h_aload_n (pc' := 8) rfl rfl rfl ?_
                      refine h_iload_n (pc' := 9) rfl rfl rfl ?_
                      refine h_put (pc' := 12) rfl rfl rfl rfl rfl rfl ci_1 rfl ?_
                      have Is62 : h_I (h_up s55 98 13 1) := (if_98_13 Is55 (by omega))
                      have Fs62 := (Fs55.up (q := 98) (a := 13) (v := 1) rfl)
                      have es62_0 : h_up s55 98 13 1 98 15 = s55 98 15 := rfl
                      have es62_1 : h_up s55 98 13 1 98 16 = s55 98 16 := rfl
                      have es62_2 : h_up s55 98 13 1 98 17 = s55 98 17 := rfl
                      have es62_3 : h_up s55 98 13 1 98 18 = s55 98 18 := rfl
                      have es62_4 : h_up s55 98 13 1 98 13 = 1 := rfl
                      generalize h_up s55 98 13 1 = s62 at Is62 Fs62 es62_0 es62_1 es62_2 es62_3 es62_4 ⊢
                      refine h_aload_n (pc' := 13) rfl rfl rfl ?_
                      refine h_aload_n (pc' := 14) rfl rfl rfl ?_
                      refine h_getI (pc' := 17) (v := s62 98 16) rfl rfl rfl rfl rfl rfl (fun z63 hz63 => ?_)
                      have tz63 := tf_98_16 Is62
                      refine h_put (pc' := 20) rfl rfl rfl rfl rfl rfl hz63 rfl ?_
                      have Is64 : h_I (h_up s62 98 14 (s62 98 16)) := (if_98_14 Is62 (h_rgv hz63))
                      have Fs64 := (Fs62.up (q := 98) (a := 14) (v := (s62 98 16)) rfl)
                      have es64_0 : h_up s62 98 14 (s62 98 16) 98 15 = s62 98 15 := rfl
                      have es64_1 : h_up s62 98 14 (s62 98 16) 98 16 = s62 98 16 := rfl
                      have es64_2 : h_up s62 98 14 (s62 98 16) 98 17 = s62 98 17 := rfl
                      have es64_3 : h_up s62 98 14 (s62 98 16) 98 18 = s62 98 18 := rfl
                      have es64_4 : h_up s62 98 14 (s62 98 16) 98 13 = s62 98 13 := rfl
                      generalize h_up s62 98 14 (s62 98 16) = s64 at Is64 Fs64 es64_0 es64_1 es64_2 es64_3 es64_4 ⊢
                      refine h_vret rfl rfl (h_Kn ?_)
                      refine h_goto (pc' := 269) rfl rfl ?_
                      exact h_vret rfl rfl (kk _ Is64 Fs64 (by omega) (by omega) (by omega))
                · refine h_aload_n (pc' := 9) rfl rfl rfl ?_
                  refine h_getR (pc' := 12) rfl rfl rfl rfl rfl ?_
                  refine h_iload_n (pc' := 13) rfl rfl rfl ?_
                  refine h_iald (pc' := 14) (v := σ 102 (s14 98 15)) rfl rfl rfl hz48 (by omega) (by omega) (Fs14 102 _ rfl) (fun z65 hz65 => ?_)
                  have tz65 := ty_102 hI (s14 98 15)
                  have kz65_0 : (s14 98 15) = (s6 98 15) → σ 102 (s14 98 15) = σ 102 (s6 98 15) := fun h => congrArg (σ 102) h
                  refine h_goto (pc' := 19) rfl rfl ?_
                  refine h_iret rfl rfl (h_Kv ?_)
                  refine h_i2l (pc' := 149) rfl rfl hz65 (fun z66 hz66 => ?_)
                  refine h_ldc2 (pc' := 152) (x := (Int64.ofInt 48)) rfl rfl rfl ?_
                  refine h_ldc2 (pc' := 155) (x := (Int64.ofInt 57)) rfl rfl rfl ?_
                  refine h_calls (pc' := 158) (M := [(0, .long z66), (2, .long (Int64.ofInt 48)), (4, .long (Int64.ofInt 57))]) rfl rfl rfl rfl rfl rfl ?_
                  refine h_lload_n (pc' := 1) rfl rfl rfl ?_
                  refine h_lload_n (pc' := 2) rfl rfl rfl ?_
                  refine h_lcmp (pc' := 3) rfl rfl hz66 cl_48 (fun z67 hz67 => ?_)
                  refine h_zlt (tg := 17) (pc' := 6) rfl rfl rfl rfl (fun c68 => ?_) (fun c68 => ?_)
                  · refine h_iconst (pc' := 18) (x := (Int32.ofInt 0)) rfl rfl rfl ?_
                    refine h_zret rfl rfl ci_0 (by omega) (h_Kv ?_)
                    refine h_zeq (tg := 217) (pc' := 161) rfl rfl rfl ci_0 (fun c69 => ?_) (fun c69 => absurd c69 (by omega))
                    refine h_aload_n (pc' := 218) rfl rfl rfl ?_
                    refine h_iconst (pc' := 219) (x := (Int32.ofInt 2)) rfl rfl rfl ?_
                    refine h_put (pc' := 222) rfl rfl rfl rfl rfl rfl ci_2 rfl ?_
                    have Is70 : h_I (h_up s14 98 17 2) := (if_98_17 Is14 (by omega))
                    have Fs70 := (Fs14.up (q := 98) (a := 17) (v := 2) rfl)
                    have es70_0 : h_up s14 98 17 2 98 15 = s14 98 15 := rfl
                    have es70_1 : h_up s14 98 17 2 98 16 = s14 98 16 := rfl
                    have es70_2 : h_up s14 98 17 2 98 17 = 2 := rfl
                    have es70_3 : h_up s14 98 17 2 98 18 = s14 98 18 := rfl
                    have es70_4 : h_up s14 98 17 2 98 13 = s14 98 13 := rfl
                    generalize h_up s14 98 17 2 = s70 at Is70 Fs70 es70_0 es70_1 es70_2 es70_3 es70_4 ⊢
                    refine h_aload_n (pc' := 223) rfl rfl rfl ?_
                    refine h_getI (pc' := 226) (v := s70 98 15) rfl rfl rfl rfl rfl rfl (fun z71 hz71 => ?_)
                    have tz71 := tf_98_15 Is70
                    refine h_aload_n (pc' := 227) rfl rfl rfl ?_
                    refine h_getI (pc' := 230) (v := s70 98 16) rfl rfl rfl rfl rfl rfl (fun z72 hz72 => ?_)
                    have tz72 := tf_98_16 Is70
                    refine h_isub (pc' := 231) rfl rfl hz71 hz72 rfl (by omega) (by omega) (fun z73 hz73 => ?_)
                    refine h_iconst (pc' := 232) (x := (Int32.ofInt 2)) rfl rfl rfl ?_
                    refine h_cle (tg := 269) (pc' := 235) rfl rfl rfl hz73 ci_2 (fun c74 => ?_) (fun c74 => ?_)
                    · exact h_vret rfl rfl (kk _ Is70 Fs70 (by omega) (by omega) (by omega))
                    · refine h_aload_n (pc' := 236) rfl rfl rfl ?_
                      refine h_iconst (pc' := 237) (x := (Int32.ofInt 1)) rfl rfl rfl ?_
                      refine h_call (sp := false) (pc' := 240) (M := [(0, .ref 98), (1, .int (Int32.ofInt 1))]) rfl rfl rfl rfl rfl rfl rfl rfl ?_
                      refine h_aload_n (pc' := 1) rfl rfl rfl ?_
                      refine h_getI (pc' := 4) (v := s70 98 13) rfl rfl rfl rfl rfl rfl (fun z75 hz75 => ?_)
                      have tz75 := tf_98_13 Is70
                      refine h_zne (tg := 20) (pc' := 7) rfl rfl rfl hz75 (fun c76 => ?_) (fun c76 => ?_)
                      · refine h_vret rfl rfl (h_Kn ?_)
                        refine h_goto (pc' := 269) rfl rfl ?_
                        exact h_vret rfl rfl (kk _ Is70 Fs70 (by omega) (by omega) (by omega))
                      · refine h_aload_n (pc' := 8) rfl rfl rfl ?_
                        refine h_iload_n (pc' := 9) rfl rfl rfl ?_
                        refine h_put (pc' := 12) rfl rfl rfl rfl rfl rfl ci_1 rfl ?_
                        have Is77 : h_I (h_up s70 98 13 1) := (if_98_13 Is70 (by omega))
                        have Fs77 := (Fs70.up (q := 98) (a := 13) (v := 1) rfl)
                        have es77_0 : h_up s70 98 13 1 98 15 = s70 98 15 := rfl
                        have es77_1 : h_up s70 98 13 1 98 16 = s70 98 16 := rfl
                        have es77_2 : h_up s70 98 13 1 98 17 = s70 98 17 := rfl
                        have es77_3 : h_up s70 98 13 1 98 18 = s70 98 18 := rfl
                        have es77_4 : h_up s70 98 13 1 98 13 = 1 := rfl
                        generalize h_up s70 98 13 1 = s77 at Is77 Fs77 es77_0 es77_1 es77_2 es77_3 es77_4 ⊢
                        refine h_aload_n (pc' := 13) rfl rfl rfl ?_
                        refine h_aload_n (pc' := 14) rfl rfl rfl ?_
                        refine h_getI (pc' := 17) (v := s77 98 16) rfl rfl rfl rfl rfl rfl (fun z78 hz78 => ?_)
                        have tz78 := tf_98_16 Is77
                        refine h_put (pc' := 20) rfl rfl rfl rfl rfl rfl hz78 rfl ?_
                        have Is79 : h_I (h_up s77 98 14 (s77 98 16)) := (if_98_14 Is77 (h_rgv hz78))
                        have Fs79 := (Fs77.up (q := 98) (a := 14) (v := (s77 98 16)) rfl)
                        have es79_0 : h_up s77 98 14 (s77 98 16) 98 15 = s77 98 15 := rfl
                        have es79_1 : h_up s77 98 14 (s77 98 16) 98 16 = s77 98 16 := rfl
                        have es79_2 : h_up s77 98 14 (s77 98 16) 98 17 = s77 98 17 := rfl
                        have es79_3 : h_up s77 98 14 (s77 98 16) 98 18 = s77 98 18 := rfl
                        have es79_4 : h_up s77 98 14 (s77 98 16) 98 13 = s77 98 13 := rfl
                        generalize h_up s77 98 14 (s77 98 16) = s79 at Is79 Fs79 es79_0 es79_1 es79_2 es79_3 es79_4 ⊢
                        refine h_vret rfl rfl (h_Kn ?_)
                        refine h_goto (pc' := 269) rfl rfl ?_
                        exact h_vret rfl rfl (kk _ Is79 Fs79 (by omega) (by omega) (by omega))
                  · refine h_lload_n (pc' := 7) rfl rfl rfl ?_
                    refine h_lload (pc' := 9) rfl rfl rfl ?_
                    refine h_lcmp (pc' := 10) rfl rfl hz66 cl_57 (fun z80 hz80 => ?_)
                    refine h_zgt (tg := 17) (pc' := 13) rfl rfl rfl rfl (fun c81 => ?_) (fun c81 => ?_)
                    · refine h_iconst (pc' := 18) (x := (Int32.ofInt 0)) rfl rfl rfl ?_
                      refine h_zret rfl rfl ci_0 (by omega) (h_Kv ?_)
                      refine h_zeq (tg := 217) (pc' := 161) rfl rfl rfl ci_0 (fun c82 => ?_) (fun c82 => absurd c82 (by omega))
                      refine h_aload_n (pc' := 218) rfl rfl rfl ?_
                      refine h_iconst (pc' := 219) (x := (Int32.ofInt 2)) rfl rfl rfl ?_
                      refine h_put (pc' := 222) rfl rfl rfl rfl rfl rfl ci_2 rfl ?_
                      have Is83 : h_I (h_up s14 98 17 2) := (if_98_17 Is14 (by omega))
                      have Fs83 := (Fs14.up (q := 98) (a := 17) (v := 2) rfl)
                      have es83_0 : h_up s14 98 17 2 98 15 = s14 98 15 := rfl
                      have es83_1 : h_up s14 98 17 2 98 16 = s14 98 16 := rfl
                      have es83_2 : h_up s14 98 17 2 98 17 = 2 := rfl
                      have es83_3 : h_up s14 98 17 2 98 18 = s14 98 18 := rfl
                      have es83_4 : h_up s14 98 17 2 98 13 = s14 98 13 := rfl
                      generalize h_up s14 98 17 2 = s83 at Is83 Fs83 es83_0 es83_1 es83_2 es83_3 es83_4 ⊢
                      refine h_aload_n (pc' := 223) rfl rfl rfl ?_
                      refine h_getI (pc' := 226) (v := s83 98 15) rfl rfl rfl rfl rfl rfl (fun z84 hz84 => ?_)
                      have tz84 := tf_98_15 Is83
                      refine h_aload_n (pc' := 227) rfl rfl rfl ?_
                      refine h_getI (pc' := 230) (v := s83 98 16) rfl rfl rfl rfl rfl rfl (fun z85 hz85 => ?_)
                      have tz85 := tf_98_16 Is83
                      refine h_isub (pc' := 231) rfl rfl hz84 hz85 rfl (by omega) (by omega) (fun z86 hz86 => ?_)
                      refine h_iconst (pc' := 232) (x := (Int32.ofInt 2)) rfl rfl rfl ?_
                      refine h_cle (tg := 269) (pc' := 235) rfl rfl rfl hz86 ci_2 (fun c87 => ?_) (fun c87 => ?_)
                      · exact h_vret rfl rfl (kk _ Is83 Fs83 (by omega) (by omega) (by omega))
                      · refine h_aload_n (pc' := 236) rfl rfl rfl ?_
                        refine h_iconst (pc' := 237) (x := (Int32.ofInt 1)) rfl rfl rfl ?_
                        refine h_call (sp := false) (pc' := 240) (M := [(0, .ref 98), (1, .int (Int32.ofInt 1))]) rfl rfl rfl rfl rfl rfl rfl rfl ?_
                        refine h_aload_n (pc' := 1) rfl rfl rfl ?_
                        refine h_getI (pc' := 4) (v := s83 98 13) rfl rfl rfl rfl rfl rfl (fun z88 hz88 => ?_)
                        have tz88 := tf_98_13 Is83
                        refine h_zne (tg := 20) (pc' := 7) rfl rfl rfl hz88 (fun c89 => ?_) (fun c89 => ?_)
                        · refine h_vret rfl rfl (h_Kn ?_)
                          refine h_goto (pc' := 269) rfl rfl ?_
                          exact h_vret rfl rfl (kk _ Is83 Fs83 (by omega) (by omega) (by omega))
                        · refine h_aload_n (pc' := 8) rfl rfl rfl ?_
                          refine h_iload_n (pc' := 9) rfl rfl rfl ?_
                          refine h_put (pc' := 12) rfl rfl rfl rfl rfl rfl ci_1 rfl ?_
                          have Is90 : h_I (h_up s83 98 13 1) := (if_98_13 Is83 (by omega))
                          have Fs90 := (Fs83.up (q := 98) (a := 13) (v := 1) rfl)
                          have es90_0 : h_up s83 98 13 1 98 15 = s83 98 15 := rfl
                          have es90_1 : h_up s83 98 13 1 98 16 = s83 98 16 := rfl
                          have es90_2 : h_up s83 98 13 1 98 17 = s83 98 17 := rfl
                          have es90_3 : h_up s83 98 13 1 98 18 = s83 98 18 := rfl
                          have es90_4 : h_up s83 98 13 1 98 13 = 1 := rfl
                          generalize h_up s83 98 13 1 = s90 at Is90 Fs90 es90_0 es90_1 es90_2 es90_3 es90_4 ⊢
                          refine h_aload_n (pc' := 13) rfl rfl rfl ?_
                          refine h_aload_n (pc' := 14) rfl rfl rfl ?_
                          refine h_getI (pc' := 17) (v := s90 98 16) rfl rfl rfl rfl rfl rfl (fun z91 hz91 => ?_)
                          have tz91 := tf_98_16 Is90
                          refine h_put (pc' := 20) rfl rfl rfl rfl rfl rfl hz91 rfl ?_
                          have Is92 : h_I (h_up s90 98 14 (s90 98 16)) := (if_98_14 Is90 (h_rgv hz91))
                          have Fs92 := (Fs90.up (q := 98) (a := 14) (v := (s90 98 16)) rfl)
                          have es92_0 : h_up s90 98 14 (s90 98 16) 98 15 = s90 98 15 := rfl
                          have es92_1 : h_up s90 98 14 (s90 98 16) 98 16 = s90 98 16 := rfl
                          have es92_2 : h_up s90 98 14 (s90 98 16) 98 17 = s90 98 17 := rfl
                          have es92_3 : h_up s90 98 14 (s90 98 16) 98 18 = s90 98 18 := rfl
                          have es92_4 : h_up s90 98 14 (s90 98 16) 98 13 = s90 98 13 := rfl
                          generalize h_up s90 98 14 (s90 98 16) = s92 at Is92 Fs92 es92_0 es92_1 es92_2 es92_3 es92_4 ⊢
                          refine h_vret rfl rfl (h_Kn ?_)
                          refine h_goto (pc' := 269) rfl rfl ?_
                          exact h_vret rfl rfl (kk _ Is92 Fs92 (by omega) (by omega) (by omega))
                    · refine h_iconst (pc' := 14) (x := (Int32.ofInt 1)) rfl rfl rfl ?_
                      refine h_goto (pc' := 18) rfl rfl ?_
                      refine h_zret rfl rfl ci_1 (by omega) (h_Kv ?_)
                      refine h_zeq (tg := 217) (pc' := 161) rfl rfl rfl ci_1 (fun c93 => absurd c93 (by omega)) (fun c93 => ?_)
                      refine h_aload_n (pc' := 162) rfl rfl rfl ?_
                      refine h_aload_n (pc' := 163) rfl rfl rfl ?_
                      refine h_getI (pc' := 166) (v := s14 98 15) rfl rfl rfl rfl rfl rfl (fun z94 hz94 => ?_)
                      have tz94 := tf_98_15 Is14
                      refine h_aload_n (pc' := 167) rfl rfl rfl ?_
                      refine h_getI (pc' := 170) (v := s14 98 16) rfl rfl rfl rfl rfl rfl (fun z95 hz95 => ?_)
                      have tz95 := tf_98_16 Is14
                      refine h_isub (pc' := 171) rfl rfl hz94 hz95 rfl (by omega) (by omega) (fun z96 hz96 => ?_)
                      refine h_iconst (pc' := 172) (x := (Int32.ofInt 2)) rfl rfl rfl ?_
                      refine h_cge (tg := 197) (pc' := 175) rfl rfl rfl hz96 ci_2 (fun c97 => ?_) (fun c97 => ?_)
                      · refine h_aload_n (pc' := 198) rfl rfl rfl ?_
                        refine h_getI (pc' := 201) (v := s14 98 18) rfl rfl rfl rfl rfl rfl (fun z98 hz98 => ?_)
                        have tz98 := tf_98_18 Is14
                        refine h_put (pc' := 204) rfl rfl rfl rfl rfl rfl hz98 rfl ?_
                        have Is99 : h_I (h_up s14 98 18 (s14 98 18)) := (if_98_18 Is14 (by omega))
                        have Fs99 := (Fs14.up (q := 98) (a := 18) (v := (s14 98 18)) rfl)
                        have es99_0 : h_up s14 98 18 (s14 98 18) 98 15 = s14 98 15 := rfl
                        have es99_1 : h_up s14 98 18 (s14 98 18) 98 16 = s14 98 16 := rfl
                        have es99_2 : h_up s14 98 18 (s14 98 18) 98 17 = s14 98 17 := rfl
                        have es99_3 : h_up s14 98 18 (s14 98 18) 98 18 = (s14 98 18) := rfl
                        have es99_4 : h_up s14 98 18 (s14 98 18) 98 13 = s14 98 13 := rfl
                        generalize h_up s14 98 18 (s14 98 18) = s99 at Is99 Fs99 es99_0 es99_1 es99_2 es99_3 es99_4 ⊢
                        refine h_aload_n (pc' := 205) rfl rfl rfl ?_
                        refine h_dup (pc' := 206) rfl rfl rfl ?_
                        refine h_getI (pc' := 209) (v := s99 98 15) rfl rfl rfl rfl rfl rfl (fun z100 hz100 => ?_)
                        have tz100 := tf_98_15 Is99
                        refine h_iconst (pc' := 210) (x := (Int32.ofInt 1)) rfl rfl rfl ?_
                        refine h_iadd (pc' := 211) rfl rfl hz100 ci_1 rfl (by omega) (by omega) (fun z101 hz101 => ?_)
                        refine h_put (pc' := 214) rfl rfl rfl rfl rfl rfl hz101 rfl ?_
                        have Is102 : h_I (h_up s99 98 15 ((s99 98 15) + 1)) := (if_98_15 Is99 (by omega))
                        have Fs102 := (Fs99.up (q := 98) (a := 15) (v := ((s99 98 15) + 1)) rfl)
                        have es102_0 : h_up s99 98 15 ((s99 98 15) + 1) 98 15 = ((s99 98 15) + 1) := rfl
                        have es102_1 : h_up s99 98 15 ((s99 98 15) + 1) 98 16 = s99 98 16 := rfl
                        have es102_2 : h_up s99 98 15 ((s99 98 15) + 1) 98 17 = s99 98 17 := rfl
                        have es102_3 : h_up s99 98 15 ((s99 98 15) + 1) 98 18 = s99 98 18 := rfl
                        have es102_4 : h_up s99 98 15 ((s99 98 15) + 1) 98 13 = s99 98 13 := rfl
                        generalize h_up s99 98 15 ((s99 98 15) + 1) = s102 at Is102 Fs102 es102_0 es102_1 es102_2 es102_3 es102_4 ⊢
                        refine h_goto (pc' := 140) rfl rfl ?_
                        exact h_wk [(0, .ref 98), (1, .int z13)] ⟨rfl, rfl, trivial⟩ (ih.2.2 _ Is102 Fs102 z13 _ hz13 (by omega) (by omega) (by omega) (by omega) (by omega) (by omega) (by omega))
                      · refine h_bipush (pc' := 177) (x := (Int32.ofInt 10)) rfl rfl cb_10 ?_
                        refine h_aload_n (pc' := 178) rfl rfl rfl ?_
                        refine h_getI (pc' := 181) (v := s14 98 18) rfl rfl rfl rfl rfl rfl (fun z103 hz103 => ?_)
                        have tz103 := tf_98_18 Is14
                        refine h_imul (pc' := 182) rfl rfl ci_10 hz103 rfl (by omega) (by omega) (fun z104 hz104 => ?_)
                        refine h_aload_n (pc' := 183) rfl rfl rfl ?_
                        refine h_aload_n (pc' := 184) rfl rfl rfl ?_
                        refine h_getI (pc' := 187) (v := s14 98 15) rfl rfl rfl rfl rfl rfl (fun z105 hz105 => ?_)
                        have tz105 := tf_98_15 Is14
                        refine h_call (sp := false) (pc' := 190) (M := [(0, .ref 98), (1, .int z105)]) rfl rfl rfl rfl rfl rfl rfl rfl ?_
                        refine h_iload_n (pc' := 1) rfl rfl rfl ?_
                        refine h_aload_n (pc' := 2) rfl rfl rfl ?_
                        refine h_getI (pc' := 5) (v := σ 98 11) rfl rfl rfl rfl rfl (Fs14 98 11 rfl) (fun z106 hz106 => ?_)
                        have tz106 := tf_98_11 hI
                        refine h_cge (tg := 17) (pc' := 8) rfl rfl rfl hz105 hz106 (fun c107 => ?_) (fun c107 => ?_)
                        · refine h_bipush (pc' := 19) (x := (Int32.ofInt (-4))) rfl rfl cb_m4 ?_
                          refine h_iret rfl rfl (h_Kv ?_)
                          refine h_iadd (pc' := 191) rfl rfl hz104 ci_m4 rfl (by omega) (by omega) (fun z108 hz108 => ?_)
                          refine h_bipush (pc' := 193) (x := (Int32.ofInt 48)) rfl rfl cb_48 ?_
                          refine h_isub (pc' := 194) rfl rfl hz108 ci_48 rfl (by omega) (by omega) (fun z109 hz109 => ?_)
                          refine h_goto (pc' := 201) rfl rfl ?_
                          refine h_put (pc' := 204) rfl rfl rfl rfl rfl rfl hz109 rfl ?_
                          have Is110 : h_I (h_up s14 98 18 (((10 * (s14 98 18)) + (-4)) - 48)) := (if_98_18 Is14 (by omega))
                          have Fs110 := (Fs14.up (q := 98) (a := 18) (v := (((10 * (s14 98 18)) + (-4)) - 48)) rfl)
                          have es110_0 : h_up s14 98 18 (((10 * (s14 98 18)) + (-4)) - 48) 98 15 = s14 98 15 := rfl
                          have es110_1 : h_up s14 98 18 (((10 * (s14 98 18)) + (-4)) - 48) 98 16 = s14 98 16 := rfl
                          have es110_2 : h_up s14 98 18 (((10 * (s14 98 18)) + (-4)) - 48) 98 17 = s14 98 17 := rfl
                          have es110_3 : h_up s14 98 18 (((10 * (s14 98 18)) + (-4)) - 48) 98 18 = (((10 * (s14 98 18)) + (-4)) - 48) := rfl
                          have es110_4 : h_up s14 98 18 (((10 * (s14 98 18)) + (-4)) - 48) 98 13 = s14 98 13 := rfl
                          generalize h_up s14 98 18 (((10 * (s14 98 18)) + (-4)) - 48) = s110 at Is110 Fs110 es110_0 es110_1 es110_2 es110_3 es110_4 ⊢
                          refine h_aload_n (pc' := 205) rfl rfl rfl ?_
                          refine h_dup (pc' := 206) rfl rfl rfl ?_
                          refine h_getI (pc' := 209) (v := s110 98 15) rfl rfl rfl rfl rfl rfl (fun z111 hz111 => ?_)
                          have tz111 := tf_98_15 Is110
                          refine h_iconst (pc' := 210) (x := (Int32.ofInt 1)) rfl rfl rfl ?_
                          refine h_iadd (pc' := 211) rfl rfl hz111 ci_1 rfl (by omega) (by omega) (fun z112 hz112 => ?_)
                          refine h_put (pc' := 214) rfl rfl rfl rfl rfl rfl hz112 rfl ?_
                          have Is113 : h_I (h_up s110 98 15 ((s110 98 15) + 1)) := (if_98_15 Is110 (by omega))
                          have Fs113 := (Fs110.up (q := 98) (a := 15) (v := ((s110 98 15) + 1)) rfl)
                          have es113_0 : h_up s110 98 15 ((s110 98 15) + 1) 98 15 = ((s110 98 15) + 1) := rfl
                          have es113_1 : h_up s110 98 15 ((s110 98 15) + 1) 98 16 = s110 98 16 := rfl
                          have es113_2 : h_up s110 98 15 ((s110 98 15) + 1) 98 17 = s110 98 17 := rfl
                          have es113_3 : h_up s110 98 15 ((s110 98 15) + 1) 98 18 = s110 98 18 := rfl
                          have es113_4 : h_up s110 98 15 ((s110 98 15) + 1) 98 13 = s110 98 13 := rfl
                          generalize h_up s110 98 15 ((s110 98 15) + 1) = s113 at Is113 Fs113 es113_0 es113_1 es113_2 es113_3 es113_4 ⊢
                          refine h_goto (pc' := 140) rfl rfl ?_
                          exact h_wk [(0, .ref 98), (1, .int z13)] ⟨rfl, rfl, trivial⟩ (ih.2.2 _ Is113 Fs113 z13 _ hz13 (by omega) (by omega) (by omega) (by omega) (by omega) (by omega) (by omega))
                        · refine h_aload_n (pc' := 9) rfl rfl rfl ?_
                          refine h_getR (pc' := 12) rfl rfl rfl rfl rfl ?_
                          refine h_iload_n (pc' := 13) rfl rfl rfl ?_
                          refine h_iald (pc' := 14) (v := σ 102 (s14 98 15)) rfl rfl rfl hz105 (by omega) (by omega) (Fs14 102 _ rfl) (fun z114 hz114 => ?_)
                          have tz114 := ty_102 hI (s14 98 15)
                          have kz114_0 : (s14 98 15) = (s6 98 15) → σ 102 (s14 98 15) = σ 102 (s6 98 15) := fun h => congrArg (σ 102) h
                          refine h_goto (pc' := 19) rfl rfl ?_
                          refine h_iret rfl rfl (h_Kv ?_)
                          refine h_iadd (pc' := 191) rfl rfl hz104 hz114 rfl (by omega) (by omega) (fun z115 hz115 => ?_)
                          refine h_bipush (pc' := 193) (x := (Int32.ofInt 48)) rfl rfl cb_48 ?_
                          refine h_isub (pc' := 194) rfl rfl hz115 ci_48 rfl (by omega) (by omega) (fun z116 hz116 => ?_)
                          refine h_goto (pc' := 201) rfl rfl ?_
                          refine h_put (pc' := 204) rfl rfl rfl rfl rfl rfl hz116 rfl ?_
                          have Is117 : h_I (h_up s14 98 18 (((10 * (s14 98 18)) + (σ 102 (s14 98 15))) - 48)) := (if_98_18 Is14 (by omega))
                          have Fs117 := (Fs14.up (q := 98) (a := 18) (v := (((10 * (s14 98 18)) + (σ 102 (s14 98 15))) - 48)) rfl)
                          have es117_0 : h_up s14 98 18 (((10 * (s14 98 18)) + (σ 102 (s14 98 15))) - 48) 98 15 = s14 98 15 := rfl
                          have es117_1 : h_up s14 98 18 (((10 * (s14 98 18)) + (σ 102 (s14 98 15))) - 48) 98 16 = s14 98 16 := rfl
                          have es117_2 : h_up s14 98 18 (((10 * (s14 98 18)) + (σ 102 (s14 98 15))) - 48) 98 17 = s14 98 17 := rfl
                          have es117_3 : h_up s14 98 18 (((10 * (s14 98 18)) + (σ 102 (s14 98 15))) - 48) 98 18 = (((10 * (s14 98 18)) + (σ 102 (s14 98 15))) - 48) := rfl
                          have es117_4 : h_up s14 98 18 (((10 * (s14 98 18)) + (σ 102 (s14 98 15))) - 48) 98 13 = s14 98 13 := rfl
                          generalize h_up s14 98 18 (((10 * (s14 98 18)) + (σ 102 (s14 98 15))) - 48) = s117 at Is117 Fs117 es117_0 es117_1 es117_2 es117_3 es117_4 ⊢
                          refine h_aload_n (pc' := 205) rfl rfl rfl ?_
                          refine h_dup (pc' := 206) rfl rfl rfl ?_
                          refine h_getI (pc' := 209) (v := s117 98 15) rfl rfl rfl rfl rfl rfl (fun z118 hz118 => ?_)
                          have tz118 := tf_98_15 Is117
                          refine h_iconst (pc' := 210) (x := (Int32.ofInt 1)) rfl rfl rfl ?_
                          refine h_iadd (pc' := 211) rfl rfl hz118 ci_1 rfl (by omega) (by omega) (fun z119 hz119 => ?_)
                          refine h_put (pc' := 214) rfl rfl rfl rfl rfl rfl hz119 rfl ?_
                          have Is120 : h_I (h_up s117 98 15 ((s117 98 15) + 1)) := (if_98_15 Is117 (by omega))
                          have Fs120 := (Fs117.up (q := 98) (a := 15) (v := ((s117 98 15) + 1)) rfl)
                          have es120_0 : h_up s117 98 15 ((s117 98 15) + 1) 98 15 = ((s117 98 15) + 1) := rfl
                          have es120_1 : h_up s117 98 15 ((s117 98 15) + 1) 98 16 = s117 98 16 := rfl
                          have es120_2 : h_up s117 98 15 ((s117 98 15) + 1) 98 17 = s117 98 17 := rfl
                          have es120_3 : h_up s117 98 15 ((s117 98 15) + 1) 98 18 = s117 98 18 := rfl
                          have es120_4 : h_up s117 98 15 ((s117 98 15) + 1) 98 13 = s117 98 13 := rfl
                          generalize h_up s117 98 15 ((s117 98 15) + 1) = s120 at Is120 Fs120 es120_0 es120_1 es120_2 es120_3 es120_4 ⊢
                          refine h_goto (pc' := 140) rfl rfl ?_
                          exact h_wk [(0, .ref 98), (1, .int z13)] ⟨rfl, rfl, trivial⟩ (ih.2.2 _ Is120 Fs120 z13 _ hz13 (by omega) (by omega) (by omega) (by omega) (by omega) (by omega) (by omega))
          · refine h_lload_n (pc' := 7) rfl rfl rfl ?_
            refine h_lload (pc' := 9) rfl rfl rfl ?_
            refine h_lcmp (pc' := 10) rfl rfl hz16 cl_122 (fun z121 hz121 => ?_)
            refine h_zgt (tg := 17) (pc' := 13) rfl rfl rfl rfl (fun c122 => ?_) (fun c122 => ?_)
            · refine h_iconst (pc' := 18) (x := (Int32.ofInt 0)) rfl rfl rfl ?_
              refine h_zret rfl rfl ci_0 (by omega) (h_Kv ?_)
              refine h_zeq (tg := 126) (pc' := 84) rfl rfl rfl ci_0 (fun c123 => ?_) (fun c123 => absurd c123 (by omega))
              refine h_iload_n (pc' := 127) rfl rfl rfl ?_
              refine h_i2l (pc' := 128) rfl rfl hz13 (fun z124 hz124 => ?_)
              refine h_ldc2 (pc' := 131) (x := (Int64.ofInt 48)) rfl rfl rfl ?_
              refine h_ldc2 (pc' := 134) (x := (Int64.ofInt 57)) rfl rfl rfl ?_
              refine h_calls (pc' := 137) (M := [(0, .long z124), (2, .long (Int64.ofInt 48)), (4, .long (Int64.ofInt 57))]) rfl rfl rfl rfl rfl rfl ?_
              refine h_lload_n (pc' := 1) rfl rfl rfl ?_
              refine h_lload_n (pc' := 2) rfl rfl rfl ?_
              refine h_lcmp (pc' := 3) rfl rfl hz124 cl_48 (fun z125 hz125 => ?_)
              refine h_zlt (tg := 17) (pc' := 6) rfl rfl rfl rfl (fun c126 => absurd c126 (by omega)) (fun c126 => ?_)
              refine h_lload_n (pc' := 7) rfl rfl rfl ?_
              refine h_lload (pc' := 9) rfl rfl rfl ?_
              refine h_lcmp (pc' := 10) rfl rfl hz124 cl_57 (fun z127 hz127 => ?_)
              refine h_zgt (tg := 17) (pc' := 13) rfl rfl rfl rfl (fun c128 => ?_) (fun c128 => absurd c128 (by omega))
              refine h_iconst (pc' := 18) (x := (Int32.ofInt 0)) rfl rfl rfl ?_
              refine h_zret rfl rfl ci_0 (by omega) (h_Kv ?_)
              refine h_zeq (tg := 243) (pc' := 140) rfl rfl rfl ci_0 (fun c129 => ?_) (fun c129 => absurd c129 (by omega))
              refine h_aload_n (pc' := 244) rfl rfl rfl ?_
              refine h_iconst (pc' := 245) (x := (Int32.ofInt 3)) rfl rfl rfl ?_
              refine h_put (pc' := 248) rfl rfl rfl rfl rfl rfl ci_3 rfl ?_
              have Is130 : h_I (h_up s14 98 17 3) := (if_98_17 Is14 (by omega))
              have Fs130 := (Fs14.up (q := 98) (a := 17) (v := 3) rfl)
              have es130_0 : h_up s14 98 17 3 98 15 = s14 98 15 := rfl
              have es130_1 : h_up s14 98 17 3 98 16 = s14 98 16 := rfl
              have es130_2 : h_up s14 98 17 3 98 17 = 3 := rfl
              have es130_3 : h_up s14 98 17 3 98 18 = s14 98 18 := rfl
              have es130_4 : h_up s14 98 17 3 98 13 = s14 98 13 := rfl
              generalize h_up s14 98 17 3 = s130 at Is130 Fs130 es130_0 es130_1 es130_2 es130_3 es130_4 ⊢
              refine h_aload_n (pc' := 249) rfl rfl rfl ?_
              refine h_dup (pc' := 250) rfl rfl rfl ?_
              refine h_getI (pc' := 253) (v := s130 98 15) rfl rfl rfl rfl rfl rfl (fun z131 hz131 => ?_)
              have tz131 := tf_98_15 Is130
              refine h_iconst (pc' := 254) (x := (Int32.ofInt 1)) rfl rfl rfl ?_
              refine h_iadd (pc' := 255) rfl rfl hz131 ci_1 rfl (by omega) (by omega) (fun z132 hz132 => ?_)
              refine h_put (pc' := 258) rfl rfl rfl rfl rfl rfl hz132 rfl ?_
              have Is133 : h_I (h_up s130 98 15 ((s130 98 15) + 1)) := (if_98_15 Is130 (by omega))
              have Fs133 := (Fs130.up (q := 98) (a := 15) (v := ((s130 98 15) + 1)) rfl)
              have es133_0 : h_up s130 98 15 ((s130 98 15) + 1) 98 15 = ((s130 98 15) + 1) := rfl
              have es133_1 : h_up s130 98 15 ((s130 98 15) + 1) 98 16 = s130 98 16 := rfl
              have es133_2 : h_up s130 98 15 ((s130 98 15) + 1) 98 17 = s130 98 17 := rfl
              have es133_3 : h_up s130 98 15 ((s130 98 15) + 1) 98 18 = s130 98 18 := rfl
              have es133_4 : h_up s130 98 15 ((s130 98 15) + 1) 98 13 = s130 98 13 := rfl
              generalize h_up s130 98 15 ((s130 98 15) + 1) = s133 at Is133 Fs133 es133_0 es133_1 es133_2 es133_3 es133_4 ⊢
              refine h_iload_n (pc' := 259) rfl rfl rfl ?_
              refine h_bipush (pc' := 261) (x := (Int32.ofInt 59)) rfl rfl cb_59 ?_
              refine h_ceq (tg := 269) (pc' := 264) rfl rfl rfl hz13 ci_59 (fun c134 => absurd c134 (by omega)) (fun c134 => ?_)
              refine h_aload_n (pc' := 265) rfl rfl rfl ?_
              refine h_iconst (pc' := 266) (x := (Int32.ofInt 1)) rfl rfl rfl ?_
              refine h_call (sp := false) (pc' := 269) (M := [(0, .ref 98), (1, .int (Int32.ofInt 1))]) rfl rfl rfl rfl rfl rfl rfl rfl ?_
              refine h_aload_n (pc' := 1) rfl rfl rfl ?_
              refine h_getI (pc' := 4) (v := s133 98 13) rfl rfl rfl rfl rfl rfl (fun z135 hz135 => ?_)
              have tz135 := tf_98_13 Is133
              refine h_zne (tg := 20) (pc' := 7) rfl rfl rfl hz135 (fun c136 => ?_) (fun c136 => ?_)
              · refine h_vret rfl rfl (h_Kn ?_)
                exact h_vret rfl rfl (kk _ Is133 Fs133 (by omega) (by omega) (by omega))
              · refine h_aload_n (pc' := 8) rfl rfl rfl ?_
                refine h_iload_n (pc' := 9) rfl rfl rfl ?_
                refine h_put (pc' := 12) rfl rfl rfl rfl rfl rfl ci_1 rfl ?_
                have Is137 : h_I (h_up s133 98 13 1) := (if_98_13 Is133 (by omega))
                have Fs137 := (Fs133.up (q := 98) (a := 13) (v := 1) rfl)
                have es137_0 : h_up s133 98 13 1 98 15 = s133 98 15 := rfl
                have es137_1 : h_up s133 98 13 1 98 16 = s133 98 16 := rfl
                have es137_2 : h_up s133 98 13 1 98 17 = s133 98 17 := rfl
                have es137_3 : h_up s133 98 13 1 98 18 = s133 98 18 := rfl
                have es137_4 : h_up s133 98 13 1 98 13 = 1 := rfl
                generalize h_up s133 98 13 1 = s137 at Is137 Fs137 es137_0 es137_1 es137_2 es137_3 es137_4 ⊢
                refine h_aload_n (pc' := 13) rfl rfl rfl ?_
                refine h_aload_n (pc' := 14) rfl rfl rfl ?_
                refine h_getI (pc' := 17) (v := s137 98 16) rfl rfl rfl rfl rfl rfl (fun z138 hz138 => ?_)
                have tz138 := tf_98_16 Is137
                refine h_put (pc' := 20) rfl rfl rfl rfl rfl rfl hz138 rfl ?_
                have Is139 : h_I (h_up s137 98 14 (s137 98 16)) := (if_98_14 Is137 (h_rgv hz138))
                have Fs139 := (Fs137.up (q := 98) (a := 14) (v := (s137 98 16)) rfl)
                have es139_0 : h_up s137 98 14 (s137 98 16) 98 15 = s137 98 15 := rfl
                have es139_1 : h_up s137 98 14 (s137 98 16) 98 16 = s137 98 16 := rfl
                have es139_2 : h_up s137 98 14 (s137 98 16) 98 17 = s137 98 17 := rfl
                have es139_3 : h_up s137 98 14 (s137 98 16) 98 18 = s137 98 18 := rfl
                have es139_4 : h_up s137 98 14 (s137 98 16) 98 13 = s137 98 13 := rfl
                generalize h_up s137 98 14 (s137 98 16) = s139 at Is139 Fs139 es139_0 es139_1 es139_2 es139_3 es139_4 ⊢
                refine h_vret rfl rfl (h_Kn ?_)
                exact h_vret rfl rfl (kk _ Is139 Fs139 (by omega) (by omega) (by omega))
            · refine h_iconst (pc' := 14) (x := (Int32.ofInt 1)) rfl rfl rfl ?_
              refine h_goto (pc' := 18) rfl rfl ?_
              refine h_zret rfl rfl ci_1 (by omega) (h_Kv ?_)
              refine h_zeq (tg := 126) (pc' := 84) rfl rfl rfl ci_1 (fun c140 => absurd c140 (by omega)) (fun c140 => ?_)
              refine h_aload_n (pc' := 85) rfl rfl rfl ?_
              refine h_aload_n (pc' := 86) rfl rfl rfl ?_
              refine h_getI (pc' := 89) (v := s14 98 15) rfl rfl rfl rfl rfl rfl (fun z141 hz141 => ?_)
              have tz141 := tf_98_15 Is14
              refine h_call (sp := false) (pc' := 92) (M := [(0, .ref 98), (1, .int z141)]) rfl rfl rfl rfl rfl rfl rfl rfl ?_
              refine h_iload_n (pc' := 1) rfl rfl rfl ?_
              refine h_aload_n (pc' := 2) rfl rfl rfl ?_
              refine h_getI (pc' := 5) (v := σ 98 11) rfl rfl rfl rfl rfl (Fs14 98 11 rfl) (fun z142 hz142 => ?_)
              have tz142 := tf_98_11 hI
              refine h_cge (tg := 17) (pc' := 8) rfl rfl rfl hz141 hz142 (fun c143 => ?_) (fun c143 => ?_)
              · refine h_bipush (pc' := 19) (x := (Int32.ofInt (-4))) rfl rfl cb_m4 ?_
                refine h_iret rfl rfl (h_Kv ?_)
                refine h_i2l (pc' := 93) rfl rfl ci_m4 (fun z144 hz144 => ?_)
                refine h_ldc2 (pc' := 96) (x := (Int64.ofInt 97)) rfl rfl rfl ?_
                refine h_ldc2 (pc' := 99) (x := (Int64.ofInt 122)) rfl rfl rfl ?_
                refine h_calls (pc' := 102) (M := [(0, .long z144), (2, .long (Int64.ofInt 97)), (4, .long (Int64.ofInt 122))]) rfl rfl rfl rfl rfl rfl ?_
                refine h_lload_n (pc' := 1) rfl rfl rfl ?_
                refine h_lload_n (pc' := 2) rfl rfl rfl ?_
                refine h_lcmp (pc' := 3) rfl rfl hz144 cl_97 (fun z145 hz145 => ?_)
                refine h_zlt (tg := 17) (pc' := 6) rfl rfl rfl rfl (fun c146 => ?_) (fun c146 => absurd c146 (by omega))
                refine h_iconst (pc' := 18) (x := (Int32.ofInt 0)) rfl rfl rfl ?_
                refine h_zret rfl rfl ci_0 (by omega) (h_Kv ?_)
                refine h_zeq (tg := 118) (pc' := 105) rfl rfl rfl ci_0 (fun c147 => ?_) (fun c147 => absurd c147 (by omega))
                refine h_aload_n (pc' := 119) rfl rfl rfl ?_
                refine h_iconst (pc' := 120) (x := (Int32.ofInt 1)) rfl rfl rfl ?_
                refine h_put (pc' := 123) rfl rfl rfl rfl rfl rfl ci_1 rfl ?_
                have Is148 : h_I (h_up s14 98 17 1) := (if_98_17 Is14 (by omega))
                have Fs148 := (Fs14.up (q := 98) (a := 17) (v := 1) rfl)
                have es148_0 : h_up s14 98 17 1 98 15 = s14 98 15 := rfl
                have es148_1 : h_up s14 98 17 1 98 16 = s14 98 16 := rfl
                have es148_2 : h_up s14 98 17 1 98 17 = 1 := rfl
                have es148_3 : h_up s14 98 17 1 98 18 = s14 98 18 := rfl
                have es148_4 : h_up s14 98 17 1 98 13 = s14 98 13 := rfl
                generalize h_up s14 98 17 1 = s148 at Is148 Fs148 es148_0 es148_1 es148_2 es148_3 es148_4 ⊢
                refine h_goto (pc' := 269) rfl rfl ?_
                exact h_vret rfl rfl (kk _ Is148 Fs148 (by omega) (by omega) (by omega))
              · refine h_aload_n (pc' := 9) rfl rfl rfl ?_
                refine h_getR (pc' := 12) rfl rfl rfl rfl rfl ?_
                refine h_iload_n (pc' := 13) rfl rfl rfl ?_
                refine h_iald (pc' := 14) (v := σ 102 (s14 98 15)) rfl rfl rfl hz141 (by omega) (by omega) (Fs14 102 _ rfl) (fun z149 hz149 => ?_)
                have tz149 := ty_102 hI (s14 98 15)
                have kz149_0 : (s14 98 15) = (s6 98 15) → σ 102 (s14 98 15) = σ 102 (s6 98 15) := fun h => congrArg (σ 102) h
                refine h_goto (pc' := 19) rfl rfl ?_
                refine h_iret rfl rfl (h_Kv ?_)
                refine h_i2l (pc' := 93) rfl rfl hz149 (fun z150 hz150 => ?_)
                refine h_ldc2 (pc' := 96) (x := (Int64.ofInt 97)) rfl rfl rfl ?_
                refine h_ldc2 (pc' := 99) (x := (Int64.ofInt 122)) rfl rfl rfl ?_
                refine h_calls (pc' := 102) (M := [(0, .long z150), (2, .long (Int64.ofInt 97)), (4, .long (Int64.ofInt 122))]) rfl rfl rfl rfl rfl rfl ?_
                refine h_lload_n (pc' := 1) rfl rfl rfl ?_
                refine h_lload_n (pc' := 2) rfl rfl rfl ?_
                refine h_lcmp (pc' := 3) rfl rfl hz150 cl_97 (fun z151 hz151 => ?_)
                refine h_zlt (tg := 17) (pc' := 6) rfl rfl rfl rfl (fun c152 => ?_) (fun c152 => ?_)
                · refine h_iconst (pc' := 18) (x := (Int32.ofInt 0)) rfl rfl rfl ?_
                  refine h_zret rfl rfl ci_0 (by omega) (h_Kv ?_)
                  refine h_zeq (tg := 118) (pc' := 105) rfl rfl rfl ci_0 (fun c153 => ?_) (fun c153 => absurd c153 (by omega))
                  refine h_aload_n (pc' := 119) rfl rfl rfl ?_
                  refine h_iconst (pc' := 120) (x := (Int32.ofInt 1)) rfl rfl rfl ?_
                  refine h_put (pc' := 123) rfl rfl rfl rfl rfl rfl ci_1 rfl ?_
                  have Is154 : h_I (h_up s14 98 17 1) := (if_98_17 Is14 (by omega))
                  have Fs154 := (Fs14.up (q := 98) (a := 17) (v := 1) rfl)
                  have es154_0 : h_up s14 98 17 1 98 15 = s14 98 15 := rfl
                  have es154_1 : h_up s14 98 17 1 98 16 = s14 98 16 := rfl
                  have es154_2 : h_up s14 98 17 1 98 17 = 1 := rfl
                  have es154_3 : h_up s14 98 17 1 98 18 = s14 98 18 := rfl
                  have es154_4 : h_up s14 98 17 1 98 13 = s14 98 13 := rfl
                  generalize h_up s14 98 17 1 = s154 at Is154 Fs154 es154_0 es154_1 es154_2 es154_3 es154_4 ⊢
                  refine h_goto (pc' := 269) rfl rfl ?_
                  exact h_vret rfl rfl (kk _ Is154 Fs154 (by omega) (by omega) (by omega))
                · refine h_lload_n (pc' := 7) rfl rfl rfl ?_
                  refine h_lload (pc' := 9) rfl rfl rfl ?_
                  refine h_lcmp (pc' := 10) rfl rfl hz150 cl_122 (fun z155 hz155 => ?_)
                  refine h_zgt (tg := 17) (pc' := 13) rfl rfl rfl rfl (fun c156 => ?_) (fun c156 => ?_)
                  · refine h_iconst (pc' := 18) (x := (Int32.ofInt 0)) rfl rfl rfl ?_
                    refine h_zret rfl rfl ci_0 (by omega) (h_Kv ?_)
                    refine h_zeq (tg := 118) (pc' := 105) rfl rfl rfl ci_0 (fun c157 => ?_) (fun c157 => absurd c157 (by omega))
                    refine h_aload_n (pc' := 119) rfl rfl rfl ?_
                    refine h_iconst (pc' := 120) (x := (Int32.ofInt 1)) rfl rfl rfl ?_
                    refine h_put (pc' := 123) rfl rfl rfl rfl rfl rfl ci_1 rfl ?_
                    have Is158 : h_I (h_up s14 98 17 1) := (if_98_17 Is14 (by omega))
                    have Fs158 := (Fs14.up (q := 98) (a := 17) (v := 1) rfl)
                    have es158_0 : h_up s14 98 17 1 98 15 = s14 98 15 := rfl
                    have es158_1 : h_up s14 98 17 1 98 16 = s14 98 16 := rfl
                    have es158_2 : h_up s14 98 17 1 98 17 = 1 := rfl
                    have es158_3 : h_up s14 98 17 1 98 18 = s14 98 18 := rfl
                    have es158_4 : h_up s14 98 17 1 98 13 = s14 98 13 := rfl
                    generalize h_up s14 98 17 1 = s158 at Is158 Fs158 es158_0 es158_1 es158_2 es158_3 es158_4 ⊢
                    refine h_goto (pc' := 269) rfl rfl ?_
                    exact h_vret rfl rfl (kk _ Is158 Fs158 (by omega) (by omega) (by omega))
                  · refine h_iconst (pc' := 14) (x := (Int32.ofInt 1)) rfl rfl rfl ?_
                    refine h_goto (pc' := 18) rfl rfl ?_
                    refine h_zret rfl rfl ci_1 (by omega) (h_Kv ?_)
                    refine h_zeq (tg := 118) (pc' := 105) rfl rfl rfl ci_1 (fun c159 => absurd c159 (by omega)) (fun c159 => ?_)
                    refine h_aload_n (pc' := 106) rfl rfl rfl ?_
                    refine h_dup (pc' := 107) rfl rfl rfl ?_
                    refine h_getI (pc' := 110) (v := s14 98 15) rfl rfl rfl rfl rfl rfl (fun z160 hz160 => ?_)
                    have tz160 := tf_98_15 Is14
                    refine h_iconst (pc' := 111) (x := (Int32.ofInt 1)) rfl rfl rfl ?_
                    refine h_iadd (pc' := 112) rfl rfl hz160 ci_1 rfl (by omega) (by omega) (fun z161 hz161 => ?_)
                    refine h_put (pc' := 115) rfl rfl rfl rfl rfl rfl hz161 rfl ?_
                    have Is162 : h_I (h_up s14 98 15 ((s14 98 15) + 1)) := (if_98_15 Is14 (by omega))
                    have Fs162 := (Fs14.up (q := 98) (a := 15) (v := ((s14 98 15) + 1)) rfl)
                    have es162_0 : h_up s14 98 15 ((s14 98 15) + 1) 98 15 = ((s14 98 15) + 1) := rfl
                    have es162_1 : h_up s14 98 15 ((s14 98 15) + 1) 98 16 = s14 98 16 := rfl
                    have es162_2 : h_up s14 98 15 ((s14 98 15) + 1) 98 17 = s14 98 17 := rfl
                    have es162_3 : h_up s14 98 15 ((s14 98 15) + 1) 98 18 = s14 98 18 := rfl
                    have es162_4 : h_up s14 98 15 ((s14 98 15) + 1) 98 13 = s14 98 13 := rfl
                    generalize h_up s14 98 15 ((s14 98 15) + 1) = s162 at Is162 Fs162 es162_0 es162_1 es162_2 es162_3 es162_4 ⊢
                    refine h_goto (pc' := 84) rfl rfl ?_
                    exact h_wk [(0, .ref 98), (1, .int z13)] ⟨rfl, rfl, trivial⟩ (ih.2.1 _ Is162 Fs162 z13 _ hz13 (by omega) (by omega) (by omega) (by omega) (by omega) (by omega))
      · refine h_aload_n (pc' := 9) rfl rfl rfl ?_
        refine h_getR (pc' := 12) rfl rfl rfl rfl rfl ?_
        refine h_iload_n (pc' := 13) rfl rfl rfl ?_
        refine h_iald (pc' := 14) (v := σ 102 (s0 98 15)) rfl rfl rfl hz1 (by omega) (by omega) (F0_ 102 _ rfl) (fun z163 hz163 => ?_)
        have tz163 := ty_102 hI (s0 98 15)
        refine h_goto (pc' := 19) rfl rfl ?_
        refine h_iret rfl rfl (h_Kv ?_)
        refine h_bipush (pc' := 18) (x := (Int32.ofInt 32)) rfl rfl cb_32 ?_
        refine h_cne (tg := 34) (pc' := 21) rfl rfl rfl hz163 ci_32 (fun c164 => ?_) (fun c164 => ?_)
        · refine h_aload_n (pc' := 35) rfl rfl rfl ?_
          refine h_aload_n (pc' := 36) rfl rfl rfl ?_
          refine h_getI (pc' := 39) (v := s0 98 15) rfl rfl rfl rfl rfl rfl (fun z165 hz165 => ?_)
          have tz165 := tf_98_15 I0
          refine h_put (pc' := 42) rfl rfl rfl rfl rfl rfl hz165 rfl ?_
          have Is166 : h_I (h_up s0 98 16 (s0 98 15)) := (if_98_16 I0 (by omega))
          have Fs166 := (F0_.up (q := 98) (a := 16) (v := (s0 98 15)) rfl)
          have es166_0 : h_up s0 98 16 (s0 98 15) 98 15 = s0 98 15 := rfl
          have es166_1 : h_up s0 98 16 (s0 98 15) 98 16 = (s0 98 15) := rfl
          have es166_2 : h_up s0 98 16 (s0 98 15) 98 17 = s0 98 17 := rfl
          have es166_3 : h_up s0 98 16 (s0 98 15) 98 18 = s0 98 18 := rfl
          have es166_4 : h_up s0 98 16 (s0 98 15) 98 13 = s0 98 13 := rfl
          generalize h_up s0 98 16 (s0 98 15) = s166 at Is166 Fs166 es166_0 es166_1 es166_2 es166_3 es166_4 ⊢
          refine h_aload_n (pc' := 43) rfl rfl rfl ?_
          refine h_aload_n (pc' := 44) rfl rfl rfl ?_
          refine h_getI (pc' := 47) (v := s166 98 15) rfl rfl rfl rfl rfl rfl (fun z167 hz167 => ?_)
          have tz167 := tf_98_15 Is166
          refine h_call (sp := false) (pc' := 50) (M := [(0, .ref 98), (1, .int z167)]) rfl rfl rfl rfl rfl rfl rfl rfl ?_
          refine h_iload_n (pc' := 1) rfl rfl rfl ?_
          refine h_aload_n (pc' := 2) rfl rfl rfl ?_
          refine h_getI (pc' := 5) (v := σ 98 11) rfl rfl rfl rfl rfl (Fs166 98 11 rfl) (fun z168 hz168 => ?_)
          have tz168 := tf_98_11 hI
          refine h_cge (tg := 17) (pc' := 8) rfl rfl rfl hz167 hz168 (fun c169 => ?_) (fun c169 => ?_)
          · refine h_bipush (pc' := 19) (x := (Int32.ofInt (-4))) rfl rfl cb_m4 ?_
            refine h_iret rfl rfl (h_Kv ?_)
            refine h_istore_n (pc' := 51) (M := [(1, .int (Int32.ofInt (-4))), (0, .ref 98)]) rfl rfl rfl rfl ?_
            refine h_aload_n (pc' := 52) rfl rfl rfl ?_
            refine h_iconst (pc' := 53) (x := (Int32.ofInt 0)) rfl rfl rfl ?_
            refine h_put (pc' := 56) rfl rfl rfl rfl rfl rfl ci_0 rfl ?_
            have Is170 : h_I (h_up s166 98 18 0) := (if_98_18 Is166 (by omega))
            have Fs170 := (Fs166.up (q := 98) (a := 18) (v := 0) rfl)
            have es170_0 : h_up s166 98 18 0 98 15 = s166 98 15 := rfl
            have es170_1 : h_up s166 98 18 0 98 16 = s166 98 16 := rfl
            have es170_2 : h_up s166 98 18 0 98 17 = s166 98 17 := rfl
            have es170_3 : h_up s166 98 18 0 98 18 = 0 := rfl
            have es170_4 : h_up s166 98 18 0 98 13 = s166 98 13 := rfl
            generalize h_up s166 98 18 0 = s170 at Is170 Fs170 es170_0 es170_1 es170_2 es170_3 es170_4 ⊢
            refine h_iload_n (pc' := 57) rfl rfl rfl ?_
            refine h_bipush (pc' := 59) (x := (Int32.ofInt (-4))) rfl rfl cb_m4 ?_
            refine h_cne (tg := 70) (pc' := 62) rfl rfl rfl ci_m4 ci_m4 (fun c171 => absurd c171 (by omega)) (fun c171 => ?_)
            refine h_aload_n (pc' := 63) rfl rfl rfl ?_
            refine h_iconst (pc' := 64) (x := (Int32.ofInt 0)) rfl rfl rfl ?_
            refine h_put (pc' := 67) rfl rfl rfl rfl rfl rfl ci_0 rfl ?_
            have Is172 : h_I (h_up s170 98 17 0) := (if_98_17 Is170 (by omega))
            have Fs172 := (Fs170.up (q := 98) (a := 17) (v := 0) rfl)
            have es172_0 : h_up s170 98 17 0 98 15 = s170 98 15 := rfl
            have es172_1 : h_up s170 98 17 0 98 16 = s170 98 16 := rfl
            have es172_2 : h_up s170 98 17 0 98 17 = 0 := rfl
            have es172_3 : h_up s170 98 17 0 98 18 = s170 98 18 := rfl
            have es172_4 : h_up s170 98 17 0 98 13 = s170 98 13 := rfl
            generalize h_up s170 98 17 0 = s172 at Is172 Fs172 es172_0 es172_1 es172_2 es172_3 es172_4 ⊢
            refine h_goto (pc' := 269) rfl rfl ?_
            exact h_vret rfl rfl (kk _ Is172 Fs172 (by omega) (by omega) (by omega))
          · refine h_aload_n (pc' := 9) rfl rfl rfl ?_
            refine h_getR (pc' := 12) rfl rfl rfl rfl rfl ?_
            refine h_iload_n (pc' := 13) rfl rfl rfl ?_
            refine h_iald (pc' := 14) (v := σ 102 (s166 98 15)) rfl rfl rfl hz167 (by omega) (by omega) (Fs166 102 _ rfl) (fun z173 hz173 => ?_)
            have tz173 := ty_102 hI (s166 98 15)
            have kz173_0 : (s166 98 15) = (s0 98 15) → σ 102 (s166 98 15) = σ 102 (s0 98 15) := fun h => congrArg (σ 102) h
            refine h_goto (pc' := 19) rfl rfl ?_
            refine h_iret rfl rfl (h_Kv ?_)
            refine h_istore_n (pc' := 51) (M := [(1, .int z173), (0, .ref 98)]) rfl rfl rfl rfl ?_
            refine h_aload_n (pc' := 52) rfl rfl rfl ?_
            refine h_iconst (pc' := 53) (x := (Int32.ofInt 0)) rfl rfl rfl ?_
            refine h_put (pc' := 56) rfl rfl rfl rfl rfl rfl ci_0 rfl ?_
            have Is174 : h_I (h_up s166 98 18 0) := (if_98_18 Is166 (by omega))
            have Fs174 := (Fs166.up (q := 98) (a := 18) (v := 0) rfl)
            have es174_0 : h_up s166 98 18 0 98 15 = s166 98 15 := rfl
            have es174_1 : h_up s166 98 18 0 98 16 = s166 98 16 := rfl
            have es174_2 : h_up s166 98 18 0 98 17 = s166 98 17 := rfl
            have es174_3 : h_up s166 98 18 0 98 18 = 0 := rfl
            have es174_4 : h_up s166 98 18 0 98 13 = s166 98 13 := rfl
            generalize h_up s166 98 18 0 = s174 at Is174 Fs174 es174_0 es174_1 es174_2 es174_3 es174_4 ⊢
            refine h_iload_n (pc' := 57) rfl rfl rfl ?_
            refine h_bipush (pc' := 59) (x := (Int32.ofInt (-4))) rfl rfl cb_m4 ?_
            refine h_cne (tg := 70) (pc' := 62) rfl rfl rfl hz173 ci_m4 (fun c175 => ?_) (fun c175 => absurd c175 (by omega))
            refine h_iload_n (pc' := 71) rfl rfl rfl ?_
            refine h_i2l (pc' := 72) rfl rfl hz173 (fun z176 hz176 => ?_)
            refine h_ldc2 (pc' := 75) (x := (Int64.ofInt 97)) rfl rfl rfl ?_
            refine h_ldc2 (pc' := 78) (x := (Int64.ofInt 122)) rfl rfl rfl ?_
            refine h_calls (pc' := 81) (M := [(0, .long z176), (2, .long (Int64.ofInt 97)), (4, .long (Int64.ofInt 122))]) rfl rfl rfl rfl rfl rfl ?_
            refine h_lload_n (pc' := 1) rfl rfl rfl ?_
            refine h_lload_n (pc' := 2) rfl rfl rfl ?_
            refine h_lcmp (pc' := 3) rfl rfl hz176 cl_97 (fun z177 hz177 => ?_)
            refine h_zlt (tg := 17) (pc' := 6) rfl rfl rfl rfl (fun c178 => ?_) (fun c178 => ?_)
            · refine h_iconst (pc' := 18) (x := (Int32.ofInt 0)) rfl rfl rfl ?_
              refine h_zret rfl rfl ci_0 (by omega) (h_Kv ?_)
              refine h_zeq (tg := 126) (pc' := 84) rfl rfl rfl ci_0 (fun c179 => ?_) (fun c179 => absurd c179 (by omega))
              refine h_iload_n (pc' := 127) rfl rfl rfl ?_
              refine h_i2l (pc' := 128) rfl rfl hz173 (fun z180 hz180 => ?_)
              refine h_ldc2 (pc' := 131) (x := (Int64.ofInt 48)) rfl rfl rfl ?_
              refine h_ldc2 (pc' := 134) (x := (Int64.ofInt 57)) rfl rfl rfl ?_
              refine h_calls (pc' := 137) (M := [(0, .long z180), (2, .long (Int64.ofInt 48)), (4, .long (Int64.ofInt 57))]) rfl rfl rfl rfl rfl rfl ?_
              refine h_lload_n (pc' := 1) rfl rfl rfl ?_
              refine h_lload_n (pc' := 2) rfl rfl rfl ?_
              refine h_lcmp (pc' := 3) rfl rfl hz180 cl_48 (fun z181 hz181 => ?_)
              refine h_zlt (tg := 17) (pc' := 6) rfl rfl rfl rfl (fun c182 => ?_) (fun c182 => ?_)
              · refine h_iconst (pc' := 18) (x := (Int32.ofInt 0)) rfl rfl rfl ?_
                refine h_zret rfl rfl ci_0 (by omega) (h_Kv ?_)
                refine h_zeq (tg := 243) (pc' := 140) rfl rfl rfl ci_0 (fun c183 => ?_) (fun c183 => absurd c183 (by omega))
                refine h_aload_n (pc' := 244) rfl rfl rfl ?_
                refine h_iconst (pc' := 245) (x := (Int32.ofInt 3)) rfl rfl rfl ?_
                refine h_put (pc' := 248) rfl rfl rfl rfl rfl rfl ci_3 rfl ?_
                have Is184 : h_I (h_up s174 98 17 3) := (if_98_17 Is174 (by omega))
                have Fs184 := (Fs174.up (q := 98) (a := 17) (v := 3) rfl)
                have es184_0 : h_up s174 98 17 3 98 15 = s174 98 15 := rfl
                have es184_1 : h_up s174 98 17 3 98 16 = s174 98 16 := rfl
                have es184_2 : h_up s174 98 17 3 98 17 = 3 := rfl
                have es184_3 : h_up s174 98 17 3 98 18 = s174 98 18 := rfl
                have es184_4 : h_up s174 98 17 3 98 13 = s174 98 13 := rfl
                generalize h_up s174 98 17 3 = s184 at Is184 Fs184 es184_0 es184_1 es184_2 es184_3 es184_4 ⊢
                refine h_aload_n (pc' := 249) rfl rfl rfl ?_
                refine h_dup (pc' := 250) rfl rfl rfl ?_
                refine h_getI (pc' := 253) (v := s184 98 15) rfl rfl rfl rfl rfl rfl (fun z185 hz185 => ?_)
                have tz185 := tf_98_15 Is184
                refine h_iconst (pc' := 254) (x := (Int32.ofInt 1)) rfl rfl rfl ?_
                refine h_iadd (pc' := 255) rfl rfl hz185 ci_1 rfl (by omega) (by omega) (fun z186 hz186 => ?_)
                refine h_put (pc' := 258) rfl rfl rfl rfl rfl rfl hz186 rfl ?_
                have Is187 : h_I (h_up s184 98 15 ((s184 98 15) + 1)) := (if_98_15 Is184 (by omega))
                have Fs187 := (Fs184.up (q := 98) (a := 15) (v := ((s184 98 15) + 1)) rfl)
                have es187_0 : h_up s184 98 15 ((s184 98 15) + 1) 98 15 = ((s184 98 15) + 1) := rfl
                have es187_1 : h_up s184 98 15 ((s184 98 15) + 1) 98 16 = s184 98 16 := rfl
                have es187_2 : h_up s184 98 15 ((s184 98 15) + 1) 98 17 = s184 98 17 := rfl
                have es187_3 : h_up s184 98 15 ((s184 98 15) + 1) 98 18 = s184 98 18 := rfl
                have es187_4 : h_up s184 98 15 ((s184 98 15) + 1) 98 13 = s184 98 13 := rfl
                generalize h_up s184 98 15 ((s184 98 15) + 1) = s187 at Is187 Fs187 es187_0 es187_1 es187_2 es187_3 es187_4 ⊢
                refine h_iload_n (pc' := 259) rfl rfl rfl ?_
                refine h_bipush (pc' := 261) (x := (Int32.ofInt 59)) rfl rfl cb_59 ?_
                refine h_ceq (tg := 269) (pc' := 264) rfl rfl rfl hz173 ci_59 (fun c188 => absurd c188 (by omega)) (fun c188 => ?_)
                refine h_aload_n (pc' := 265) rfl rfl rfl ?_
                refine h_iconst (pc' := 266) (x := (Int32.ofInt 1)) rfl rfl rfl ?_
                refine h_call (sp := false) (pc' := 269) (M := [(0, .ref 98), (1, .int (Int32.ofInt 1))]) rfl rfl rfl rfl rfl rfl rfl rfl ?_
                refine h_aload_n (pc' := 1) rfl rfl rfl ?_
                refine h_getI (pc' := 4) (v := s187 98 13) rfl rfl rfl rfl rfl rfl (fun z189 hz189 => ?_)
                have tz189 := tf_98_13 Is187
                refine h_zne (tg := 20) (pc' := 7) rfl rfl rfl hz189 (fun c190 => ?_) (fun c190 => ?_)
                · refine h_vret rfl rfl (h_Kn ?_)
                  exact h_vret rfl rfl (kk _ Is187 Fs187 (by omega) (by omega) (by omega))
                · refine h_aload_n (pc' := 8) rfl rfl rfl ?_
                  refine h_iload_n (pc' := 9) rfl rfl rfl ?_
                  refine h_put (pc' := 12) rfl rfl rfl rfl rfl rfl ci_1 rfl ?_
                  have Is191 : h_I (h_up s187 98 13 1) := (if_98_13 Is187 (by omega))
                  have Fs191 := (Fs187.up (q := 98) (a := 13) (v := 1) rfl)
                  have es191_0 : h_up s187 98 13 1 98 15 = s187 98 15 := rfl
                  have es191_1 : h_up s187 98 13 1 98 16 = s187 98 16 := rfl
                  have es191_2 : h_up s187 98 13 1 98 17 = s187 98 17 := rfl
                  have es191_3 : h_up s187 98 13 1 98 18 = s187 98 18 := rfl
                  have es191_4 : h_up s187 98 13 1 98 13 = 1 := rfl
                  generalize h_up s187 98 13 1 = s191 at Is191 Fs191 es191_0 es191_1 es191_2 es191_3 es191_4 ⊢
                  refine h_aload_n (pc' := 13) rfl rfl rfl ?_
                  refine h_aload_n (pc' := 14) rfl rfl rfl ?_
                  refine h_getI (pc' := 17) (v := s191 98 16) rfl rfl rfl rfl rfl rfl (fun z192 hz192 => ?_)
                  have tz192 := tf_98_16 Is191
                  refine h_put (pc' := 20) rfl rfl rfl rfl rfl rfl hz192 rfl ?_
                  have Is193 : h_I (h_up s191 98 14 (s191 98 16)) := (if_98_14 Is191 (h_rgv hz192))
                  have Fs193 := (Fs191.up (q := 98) (a := 14) (v := (s191 98 16)) rfl)
                  have es193_0 : h_up s191 98 14 (s191 98 16) 98 15 = s191 98 15 := rfl
                  have es193_1 : h_up s191 98 14 (s191 98 16) 98 16 = s191 98 16 := rfl
                  have es193_2 : h_up s191 98 14 (s191 98 16) 98 17 = s191 98 17 := rfl
                  have es193_3 : h_up s191 98 14 (s191 98 16) 98 18 = s191 98 18 := rfl
                  have es193_4 : h_up s191 98 14 (s191 98 16) 98 13 = s191 98 13 := rfl
                  generalize h_up s191 98 14 (s191 98 16) = s193 at Is193 Fs193 es193_0 es193_1 es193_2 es193_3 es193_4 ⊢
                  refine h_vret rfl rfl (h_Kn ?_)
                  exact h_vret rfl rfl (kk _ Is193 Fs193 (by omega) (by omega) (by omega))
              · refine h_lload_n (pc' := 7) rfl rfl rfl ?_
                refine h_lload (pc' := 9) rfl rfl rfl ?_
                refine h_lcmp (pc' := 10) rfl rfl hz180 cl_57 (fun z194 hz194 => ?_)
                refine h_zgt (tg := 17) (pc' := 13) rfl rfl rfl rfl (fun c195 => ?_) (fun c195 => ?_)
                · refine h_iconst (pc' := 18) (x := (Int32.ofInt 0)) rfl rfl rfl ?_
                  refine h_zret rfl rfl ci_0 (by omega) (h_Kv ?_)
                  refine h_zeq (tg := 243) (pc' := 140) rfl rfl rfl ci_0 (fun c196 => ?_) (fun c196 => absurd c196 (by omega))
                  refine h_aload_n (pc' := 244) rfl rfl rfl ?_
                  refine h_iconst (pc' := 245) (x := (Int32.ofInt 3)) rfl rfl rfl ?_
                  refine h_put (pc' := 248) rfl rfl rfl rfl rfl rfl ci_3 rfl ?_
                  have Is197 : h_I (h_up s174 98 17 3) := (if_98_17 Is174 (by omega))
                  have Fs197 := (Fs174.up (q := 98) (a := 17) (v := 3) rfl)
                  have es197_0 : h_up s174 98 17 3 98 15 = s174 98 15 := rfl
                  have es197_1 : h_up s174 98 17 3 98 16 = s174 98 16 := rfl
                  have es197_2 : h_up s174 98 17 3 98 17 = 3 := rfl
                  have es197_3 : h_up s174 98 17 3 98 18 = s174 98 18 := rfl
                  have es197_4 : h_up s174 98 17 3 98 13 = s174 98 13 := rfl
                  generalize h_up s174 98 17 3 = s197 at Is197 Fs197 es197_0 es197_1 es197_2 es197_3 es197_4 ⊢
                  refine h_aload_n (pc' := 249) rfl rfl rfl ?_
                  refine h_dup (pc' := 250) rfl rfl rfl ?_
                  refine h_getI (pc' := 253) (v := s197 98 15) rfl rfl rfl rfl rfl rfl (fun z198 hz198 => ?_)
                  have tz198 := tf_98_15 Is197
                  refine h_iconst (pc' := 254) (x := (Int32.ofInt 1)) rfl rfl rfl ?_
                  refine h_iadd (pc' := 255) rfl rfl hz198 ci_1 rfl (by omega) (by omega) (fun z199 hz199 => ?_)
                  refine h_put (pc' := 258) rfl rfl rfl rfl rfl rfl hz199 rfl ?_
                  have Is200 : h_I (h_up s197 98 15 ((s197 98 15) + 1)) := (if_98_15 Is197 (by omega))
                  have Fs200 := (Fs197.up (q := 98) (a := 15) (v := ((s197 98 15) + 1)) rfl)
                  have es200_0 : h_up s197 98 15 ((s197 98 15) + 1) 98 15 = ((s197 98 15) + 1) := rfl
                  have es200_1 : h_up s197 98 15 ((s197 98 15) + 1) 98 16 = s197 98 16 := rfl
                  have es200_2 : h_up s197 98 15 ((s197 98 15) + 1) 98 17 = s197 98 17 := rfl
                  have es200_3 : h_up s197 98 15 ((s197 98 15) + 1) 98 18 = s197 98 18 := rfl
                  have es200_4 : h_up s197 98 15 ((s197 98 15) + 1) 98 13 = s197 98 13 := rfl
                  generalize h_up s197 98 15 ((s197 98 15) + 1) = s200 at Is200 Fs200 es200_0 es200_1 es200_2 es200_3 es200_4 ⊢
                  refine h_iload_n (pc' := 259) rfl rfl rfl ?_
                  refine h_bipush (pc' := 261) (x := (Int32.ofInt 59)) rfl rfl cb_59 ?_
                  refine h_ceq (tg := 269) (pc' := 264) rfl rfl rfl hz173 ci_59 (fun c201 => ?_) (fun c201 => ?_)
                  · exact h_vret rfl rfl (kk _ Is200 Fs200 (by omega) (by omega) (by omega))
                  · refine h_aload_n (pc' := 265) rfl rfl rfl ?_
                    refine h_iconst (pc' := 266) (x := (Int32.ofInt 1)) rfl rfl rfl ?_
                    refine h_call (sp := false) (pc' := 269) (M := [(0, .ref 98), (1, .int (Int32.ofInt 1))]) rfl rfl rfl rfl rfl rfl rfl rfl ?_
                    refine h_aload_n (pc' := 1) rfl rfl rfl ?_
                    refine h_getI (pc' := 4) (v := s200 98 13) rfl rfl rfl rfl rfl rfl (fun z202 hz202 => ?_)
                    have tz202 := tf_98_13 Is200
                    refine h_zne (tg := 20) (pc' := 7) rfl rfl rfl hz202 (fun c203 => ?_) (fun c203 => ?_)
                    · refine h_vret rfl rfl (h_Kn ?_)
                      exact h_vret rfl rfl (kk _ Is200 Fs200 (by omega) (by omega) (by omega))
                    · refine h_aload_n (pc' := 8) rfl rfl rfl ?_
                      refine h_iload_n (pc' := 9) rfl rfl rfl ?_
                      refine h_put (pc' := 12) rfl rfl rfl rfl rfl rfl ci_1 rfl ?_
                      have Is204 : h_I (h_up s200 98 13 1) := (if_98_13 Is200 (by omega))
                      have Fs204 := (Fs200.up (q := 98) (a := 13) (v := 1) rfl)
                      have es204_0 : h_up s200 98 13 1 98 15 = s200 98 15 := rfl
                      have es204_1 : h_up s200 98 13 1 98 16 = s200 98 16 := rfl
                      have es204_2 : h_up s200 98 13 1 98 17 = s200 98 17 := rfl
                      have es204_3 : h_up s200 98 13 1 98 18 = s200 98 18 := rfl
                      have es204_4 : h_up s200 98 13 1 98 13 = 1 := rfl
                      generalize h_up s200 98 13 1 = s204 at Is204 Fs204 es204_0 es204_1 es204_2 es204_3 es204_4 ⊢
                      refine h_aload_n (pc' := 13) rfl rfl rfl ?_
                      refine h_aload_n (pc' := 14) rfl rfl rfl ?_
                      refine h_getI (pc' := 17) (v := s204 98 16) rfl rfl rfl rfl rfl rfl (fun z205 hz205 => ?_)
                      have tz205 := tf_98_16 Is204
                      refine h_put (pc' := 20) rfl rfl rfl rfl rfl rfl hz205 rfl ?_
                      have Is206 : h_I (h_up s204 98 14 (s204 98 16)) := (if_98_14 Is204 (h_rgv hz205))
                      have Fs206 := (Fs204.up (q := 98) (a := 14) (v := (s204 98 16)) rfl)
                      have es206_0 : h_up s204 98 14 (s204 98 16) 98 15 = s204 98 15 := rfl
                      have es206_1 : h_up s204 98 14 (s204 98 16) 98 16 = s204 98 16 := rfl
                      have es206_2 : h_up s204 98 14 (s204 98 16) 98 17 = s204 98 17 := rfl
                      have es206_3 : h_up s204 98 14 (s204 98 16) 98 18 = s204 98 18 := rfl
                      have es206_4 : h_up s204 98 14 (s204 98 16) 98 13 = s204 98 13 := rfl
                      generalize h_up s204 98 14 (s204 98 16) = s206 at Is206 Fs206 es206_0 es206_1 es206_2 es206_3 es206_4 ⊢
                      refine h_vret rfl rfl (h_Kn ?_)
                      exact h_vret rfl rfl (kk _ Is206 Fs206 (by omega) (by omega) (by omega))
                · refine h_iconst (pc' := 14) (x := (Int32.ofInt 1)) rfl rfl rfl ?_
                  refine h_goto (pc' := 18) rfl rfl ?_
                  refine h_zret rfl rfl ci_1 (by omega) (h_Kv ?_)
                  refine h_zeq (tg := 243) (pc' := 140) rfl rfl rfl ci_1 (fun c207 => absurd c207 (by omega)) (fun c207 => ?_)
                  refine h_aload_n (pc' := 141) rfl rfl rfl ?_
                  refine h_aload_n (pc' := 142) rfl rfl rfl ?_
                  refine h_getI (pc' := 145) (v := s174 98 15) rfl rfl rfl rfl rfl rfl (fun z208 hz208 => ?_)
                  have tz208 := tf_98_15 Is174
                  refine h_call (sp := false) (pc' := 148) (M := [(0, .ref 98), (1, .int z208)]) rfl rfl rfl rfl rfl rfl rfl rfl ?_
                  refine h_iload_n (pc' := 1) rfl rfl rfl ?_
                  refine h_aload_n (pc' := 2) rfl rfl rfl ?_
                  refine h_getI (pc' := 5) (v := σ 98 11) rfl rfl rfl rfl rfl (Fs174 98 11 rfl) (fun z209 hz209 => ?_)
                  have tz209 := tf_98_11 hI
                  refine h_cge (tg := 17) (pc' := 8) rfl rfl rfl hz208 hz209 (fun c210 => ?_) (fun c210 => ?_)
                  · refine h_bipush (pc' := 19) (x := (Int32.ofInt (-4))) rfl rfl cb_m4 ?_
                    refine h_iret rfl rfl (h_Kv ?_)
                    refine h_i2l (pc' := 149) rfl rfl ci_m4 (fun z211 hz211 => ?_)
                    refine h_ldc2 (pc' := 152) (x := (Int64.ofInt 48)) rfl rfl rfl ?_
                    refine h_ldc2 (pc' := 155) (x := (Int64.ofInt 57)) rfl rfl rfl ?_
                    refine h_calls (pc' := 158) (M := [(0, .long z211), (2, .long (Int64.ofInt 48)), (4, .long (Int64.ofInt 57))]) rfl rfl rfl rfl rfl rfl ?_
                    refine h_lload_n (pc' := 1) rfl rfl rfl ?_
                    refine h_lload_n (pc' := 2) rfl rfl rfl ?_
                    refine h_lcmp (pc' := 3) rfl rfl hz211 cl_48 (fun z212 hz212 => ?_)
                    refine h_zlt (tg := 17) (pc' := 6) rfl rfl rfl rfl (fun c213 => ?_) (fun c213 => absurd c213 (by omega))
                    refine h_iconst (pc' := 18) (x := (Int32.ofInt 0)) rfl rfl rfl ?_
                    refine h_zret rfl rfl ci_0 (by omega) (h_Kv ?_)
                    refine h_zeq (tg := 217) (pc' := 161) rfl rfl rfl ci_0 (fun c214 => ?_) (fun c214 => absurd c214 (by omega))
                    refine h_aload_n (pc' := 218) rfl rfl rfl ?_
                    refine h_iconst (pc' := 219) (x := (Int32.ofInt 2)) rfl rfl rfl ?_
                    refine h_put (pc' := 222) rfl rfl rfl rfl rfl rfl ci_2 rfl ?_
                    have Is215 : h_I (h_up s174 98 17 2) := (if_98_17 Is174 (by omega))
                    have Fs215 := (Fs174.up (q := 98) (a := 17) (v := 2) rfl)
                    have es215_0 : h_up s174 98 17 2 98 15 = s174 98 15 := rfl
                    have es215_1 : h_up s174 98 17 2 98 16 = s174 98 16 := rfl
                    have es215_2 : h_up s174 98 17 2 98 17 = 2 := rfl
                    have es215_3 : h_up s174 98 17 2 98 18 = s174 98 18 := rfl
                    have es215_4 : h_up s174 98 17 2 98 13 = s174 98 13 := rfl
                    generalize h_up s174 98 17 2 = s215 at Is215 Fs215 es215_0 es215_1 es215_2 es215_3 es215_4 ⊢
                    refine h_aload_n (pc' := 223) rfl rfl rfl ?_
                    refine h_getI (pc' := 226) (v := s215 98 15) rfl rfl rfl rfl rfl rfl (fun z216 hz216 => ?_)
                    have tz216 := tf_98_15 Is215
                    refine h_aload_n (pc' := 227) rfl rfl rfl ?_
                    refine h_getI (pc' := 230) (v := s215 98 16) rfl rfl rfl rfl rfl rfl (fun z217 hz217 => ?_)
                    have tz217 := tf_98_16 Is215
                    refine h_isub (pc' := 231) rfl rfl hz216 hz217 rfl (by omega) (by omega) (fun z218 hz218 => ?_)
                    refine h_iconst (pc' := 232) (x := (Int32.ofInt 2)) rfl rfl rfl ?_
                    refine h_cle (tg := 269) (pc' := 235) rfl rfl rfl hz218 ci_2 (fun c219 => ?_) (fun c219 => ?_)
                    · exact h_vret rfl rfl (kk _ Is215 Fs215 (by omega) (by omega) (by omega))
                    · refine h_aload_n (pc' := 236) rfl rfl rfl ?_
                      refine h_iconst (pc' := 237) (x := (Int32.ofInt 1)) rfl rfl rfl ?_
                      refine h_call (sp := false) (pc' := 240) (M := [(0, .ref 98), (1, .int (Int32.ofInt 1))]) rfl rfl rfl rfl rfl rfl rfl rfl ?_
                      refine h_aload_n (pc' := 1) rfl rfl rfl ?_
                      refine h_getI (pc' := 4) (v := s215 98 13) rfl rfl rfl rfl rfl rfl (fun z220 hz220 => ?_)
                      have tz220 := tf_98_13 Is215
                      refine h_zne (tg := 20) (pc' := 7) rfl rfl rfl hz220 (fun c221 => ?_) (fun c221 => ?_)
                      · refine h_vret rfl rfl (h_Kn ?_)
                        refine h_goto (pc' := 269) rfl rfl ?_
                        exact h_vret rfl rfl (kk _ Is215 Fs215 (by omega) (by omega) (by omega))
                      · refine h_aload_n (pc' := 8) rfl rfl rfl ?_
                        refine h_iload_n (pc' := 9) rfl rfl rfl ?_
                        refine h_put (pc' := 12) rfl rfl rfl rfl rfl rfl ci_1 rfl ?_
                        have Is222 : h_I (h_up s215 98 13 1) := (if_98_13 Is215 (by omega))
                        have Fs222 := (Fs215.up (q := 98) (a := 13) (v := 1) rfl)
                        have es222_0 : h_up s215 98 13 1 98 15 = s215 98 15 := rfl
                        have es222_1 : h_up s215 98 13 1 98 16 = s215 98 16 := rfl
                        have es222_2 : h_up s215 98 13 1 98 17 = s215 98 17 := rfl
                        have es222_3 : h_up s215 98 13 1 98 18 = s215 98 18 := rfl
                        have es222_4 : h_up s215 98 13 1 98 13 = 1 := rfl
                        generalize h_up s215 98 13 1 = s222 at Is222 Fs222 es222_0 es222_1 es222_2 es222_3 es222_4 ⊢
                        refine h_aload_n (pc' := 13) rfl rfl rfl ?_
                        refine h_aload_n (pc' := 14) rfl rfl rfl ?_
                        refine h_getI (pc' := 17) (v := s222 98 16) rfl rfl rfl rfl rfl rfl (fun z223 hz223 => ?_)
                        have tz223 := tf_98_16 Is222
                        refine h_put (pc' := 20) rfl rfl rfl rfl rfl rfl hz223 rfl ?_
                        have Is224 : h_I (h_up s222 98 14 (s222 98 16)) := (if_98_14 Is222 (h_rgv hz223))
                        have Fs224 := (Fs222.up (q := 98) (a := 14) (v := (s222 98 16)) rfl)
                        have es224_0 : h_up s222 98 14 (s222 98 16) 98 15 = s222 98 15 := rfl
                        have es224_1 : h_up s222 98 14 (s222 98 16) 98 16 = s222 98 16 := rfl
                        have es224_2 : h_up s222 98 14 (s222 98 16) 98 17 = s222 98 17 := rfl
                        have es224_3 : h_up s222 98 14 (s222 98 16) 98 18 = s222 98 18 := rfl
                        have es224_4 : h_up s222 98 14 (s222 98 16) 98 13 = s222 98 13 := rfl
                        generalize h_up s222 98 14 (s222 98 16) = s224 at Is224 Fs224 es224_0 es224_1 es224_2 es224_3 es224_4 ⊢
                        refine h_vret rfl rfl (h_Kn ?_)
                        refine h_goto (pc' := 269) rfl rfl ?_
                        exact h_vret rfl rfl (kk _ Is224 Fs224 (by omega) (by omega) (by omega))
                  · refine h_aload_n (pc' := 9) rfl rfl rfl ?_
                    refine h_getR (pc' := 12) rfl rfl rfl rfl rfl ?_
                    refine h_iload_n (pc' := 13) rfl rfl rfl ?_
                    refine h_iald (pc' := 14) (v := σ 102 (s174 98 15)) rfl rfl rfl hz208 (by omega) (by omega) (Fs174 102 _ rfl) (fun z225 hz225 => ?_)
                    have tz225 := ty_102 hI (s174 98 15)
                    have kz225_0 : (s174 98 15) = (s0 98 15) → σ 102 (s174 98 15) = σ 102 (s0 98 15) := fun h => congrArg (σ 102) h
                    have kz225_1 : (s174 98 15) = (s166 98 15) → σ 102 (s174 98 15) = σ 102 (s166 98 15) := fun h => congrArg (σ 102) h
                    refine h_goto (pc' := 19) rfl rfl ?_
                    refine h_iret rfl rfl (h_Kv ?_)
                    refine h_i2l (pc' := 149) rfl rfl hz225 (fun z226 hz226 => ?_)
                    refine h_ldc2 (pc' := 152) (x := (Int64.ofInt 48)) rfl rfl rfl ?_
                    refine h_ldc2 (pc' := 155) (x := (Int64.ofInt 57)) rfl rfl rfl ?_
                    refine h_calls (pc' := 158) (M := [(0, .long z226), (2, .long (Int64.ofInt 48)), (4, .long (Int64.ofInt 57))]) rfl rfl rfl rfl rfl rfl ?_
                    refine h_lload_n (pc' := 1) rfl rfl rfl ?_
                    refine h_lload_n (pc' := 2) rfl rfl rfl ?_
                    refine h_lcmp (pc' := 3) rfl rfl hz226 cl_48 (fun z227 hz227 => ?_)
                    refine h_zlt (tg := 17) (pc' := 6) rfl rfl rfl rfl (fun c228 => ?_) (fun c228 => ?_)
                    · refine h_iconst (pc' := 18) (x := (Int32.ofInt 0)) rfl rfl rfl ?_
                      refine h_zret rfl rfl ci_0 (by omega) (h_Kv ?_)
                      refine h_zeq (tg := 217) (pc' := 161) rfl rfl rfl ci_0 (fun c229 => ?_) (fun c229 => absurd c229 (by omega))
                      refine h_aload_n (pc' := 218) rfl rfl rfl ?_
                      refine h_iconst (pc' := 219) (x := (Int32.ofInt 2)) rfl rfl rfl ?_
                      refine h_put (pc' := 222) rfl rfl rfl rfl rfl rfl ci_2 rfl ?_
                      have Is230 : h_I (h_up s174 98 17 2) := (if_98_17 Is174 (by omega))
                      have Fs230 := (Fs174.up (q := 98) (a := 17) (v := 2) rfl)
                      have es230_0 : h_up s174 98 17 2 98 15 = s174 98 15 := rfl
                      have es230_1 : h_up s174 98 17 2 98 16 = s174 98 16 := rfl
                      have es230_2 : h_up s174 98 17 2 98 17 = 2 := rfl
                      have es230_3 : h_up s174 98 17 2 98 18 = s174 98 18 := rfl
                      have es230_4 : h_up s174 98 17 2 98 13 = s174 98 13 := rfl
                      generalize h_up s174 98 17 2 = s230 at Is230 Fs230 es230_0 es230_1 es230_2 es230_3 es230_4 ⊢
                      refine h_aload_n (pc' := 223) rfl rfl rfl ?_
                      refine h_getI (pc' := 226) (v := s230 98 15) rfl rfl rfl rfl rfl rfl (fun z231 hz231 => ?_)
                      have tz231 := tf_98_15 Is230
                      refine h_aload_n (pc' := 227) rfl rfl rfl ?_
                      refine h_getI (pc' := 230) (v := s230 98 16) rfl rfl rfl rfl rfl rfl (fun z232 hz232 => ?_)
                      have tz232 := tf_98_16 Is230
                      refine h_isub (pc' := 231) rfl rfl hz231 hz232 rfl (by omega) (by omega) (fun z233 hz233 => ?_)
                      refine h_iconst (pc' := 232) (x := (Int32.ofInt 2)) rfl rfl rfl ?_
                      refine h_cle (tg := 269) (pc' := 235) rfl rfl rfl hz233 ci_2 (fun c234 => ?_) (fun c234 => ?_)
                      · exact h_vret rfl rfl (kk _ Is230 Fs230 (by omega) (by omega) (by omega))
                      · refine h_aload_n (pc' := 236) rfl rfl rfl ?_
                        refine h_iconst (pc' := 237) (x := (Int32.ofInt 1)) rfl rfl rfl ?_
                        refine h_call (sp := false) (pc' := 240) (M := [(0, .ref 98), (1, .int (Int32.ofInt 1))]) rfl rfl rfl rfl rfl rfl rfl rfl ?_
                        refine h_aload_n (pc' := 1) rfl rfl rfl ?_
                        refine h_getI (pc' := 4) (v := s230 98 13) rfl rfl rfl rfl rfl rfl (fun z235 hz235 => ?_)
                        have tz235 := tf_98_13 Is230
                        refine h_zne (tg := 20) (pc' := 7) rfl rfl rfl hz235 (fun c236 => ?_) (fun c236 => ?_)
                        · refine h_vret rfl rfl (h_Kn ?_)
                          refine h_goto (pc' := 269) rfl rfl ?_
                          exact h_vret rfl rfl (kk _ Is230 Fs230 (by omega) (by omega) (by omega))
                        · refine h_aload_n (pc' := 8) rfl rfl rfl ?_
                          refine h_iload_n (pc' := 9) rfl rfl rfl ?_
                          refine h_put (pc' := 12) rfl rfl rfl rfl rfl rfl ci_1 rfl ?_
                          have Is237 : h_I (h_up s230 98 13 1) := (if_98_13 Is230 (by omega))
                          have Fs237 := (Fs230.up (q := 98) (a := 13) (v := 1) rfl)
                          have es237_0 : h_up s230 98 13 1 98 15 = s230 98 15 := rfl
                          have es237_1 : h_up s230 98 13 1 98 16 = s230 98 16 := rfl
                          have es237_2 : h_up s230 98 13 1 98 17 = s230 98 17 := rfl
                          have es237_3 : h_up s230 98 13 1 98 18 = s230 98 18 := rfl
                          have es237_4 : h_up s230 98 13 1 98 13 = 1 := rfl
                          generalize h_up s230 98 13 1 = s237 at Is237 Fs237 es237_0 es237_1 es237_2 es237_3 es237_4 ⊢
                          refine h_aload_n (pc' := 13) rfl rfl rfl ?_
                          refine h_aload_n (pc' := 14) rfl rfl rfl ?_
                          refine h_getI (pc' := 17) (v := s237 98 16) rfl rfl rfl rfl rfl rfl (fun z238 hz238 => ?_)
                          have tz238 := tf_98_16 Is237
                          refine h_put (pc' := 20) rfl rfl rfl rfl rfl rfl hz238 rfl ?_
                          have Is239 : h_I (h_up s237 98 14 (s237 98 16)) := (if_98_14 Is237 (h_rgv hz238))
                          have Fs239 := (Fs237.up (q := 98) (a := 14) (v := (s237 98 16)) rfl)
                          have es239_0 : h_up s237 98 14 (s237 98 16) 98 15 = s237 98 15 := rfl
                          have es239_1 : h_up s237 98 14 (s237 98 16) 98 16 = s237 98 16 := rfl
                          have es239_2 : h_up s237 98 14 (s237 98 16) 98 17 = s237 98 17 := rfl
                          have es239_3 : h_up s237 98 14 (s237 98 16) 98 18 = s237 98 18 := rfl
                          have es239_4 : h_up s237 98 14 (s237 98 16) 98 13 = s237 98 13 := rfl
                          generalize h_up s237 98 14 (s237 98 16) = s239 at Is239 Fs239 es239_0 es239_1 es239_2 es239_3 es239_4 ⊢
                          refine h_vret rfl rfl (h_Kn ?_)
                          refine h_goto (pc' := 269) rfl rfl ?_
                          exact h_vret rfl rfl (kk _ Is239 Fs239 (by omega) (by omega) (by omega))
                    · refine h_lload_n (pc' := 7) rfl rfl rfl ?_
                      refine h_lload (pc' := 9) rfl rfl rfl ?_
                      refine h_lcmp (pc' := 10) rfl rfl hz226 cl_57 (fun z240 hz240 => ?_)
                      refine h_zgt (tg := 17) (pc' := 13) rfl rfl rfl rfl (fun c241 => ?_) (fun c241 => ?_)
                      · refine h_iconst (pc' := 18) (x := (Int32.ofInt 0)) rfl rfl rfl ?_
                        refine h_zret rfl rfl ci_0 (by omega) (h_Kv ?_)
                        refine h_zeq (tg := 217) (pc' := 161) rfl rfl rfl ci_0 (fun c242 => ?_) (fun c242 => absurd c242 (by omega))
                        refine h_aload_n (pc' := 218) rfl rfl rfl ?_
                        refine h_iconst (pc' := 219) (x := (Int32.ofInt 2)) rfl rfl rfl ?_
                        refine h_put (pc' := 222) rfl rfl rfl rfl rfl rfl ci_2 rfl ?_
                        have Is243 : h_I (h_up s174 98 17 2) := (if_98_17 Is174 (by omega))
                        have Fs243 := (Fs174.up (q := 98) (a := 17) (v := 2) rfl)
                        have es243_0 : h_up s174 98 17 2 98 15 = s174 98 15 := rfl
                        have es243_1 : h_up s174 98 17 2 98 16 = s174 98 16 := rfl
                        have es243_2 : h_up s174 98 17 2 98 17 = 2 := rfl
                        have es243_3 : h_up s174 98 17 2 98 18 = s174 98 18 := rfl
                        have es243_4 : h_up s174 98 17 2 98 13 = s174 98 13 := rfl
                        generalize h_up s174 98 17 2 = s243 at Is243 Fs243 es243_0 es243_1 es243_2 es243_3 es243_4 ⊢
                        refine h_aload_n (pc' := 223) rfl rfl rfl ?_
                        refine h_getI (pc' := 226) (v := s243 98 15) rfl rfl rfl rfl rfl rfl (fun z244 hz244 => ?_)
                        have tz244 := tf_98_15 Is243
                        refine h_aload_n (pc' := 227) rfl rfl rfl ?_
                        refine h_getI (pc' := 230) (v := s243 98 16) rfl rfl rfl rfl rfl rfl (fun z245 hz245 => ?_)
                        have tz245 := tf_98_16 Is243
                        refine h_isub (pc' := 231) rfl rfl hz244 hz245 rfl (by omega) (by omega) (fun z246 hz246 => ?_)
                        refine h_iconst (pc' := 232) (x := (Int32.ofInt 2)) rfl rfl rfl ?_
                        refine h_cle (tg := 269) (pc' := 235) rfl rfl rfl hz246 ci_2 (fun c247 => ?_) (fun c247 => ?_)
                        · exact h_vret rfl rfl (kk _ Is243 Fs243 (by omega) (by omega) (by omega))
                        · refine h_aload_n (pc' := 236) rfl rfl rfl ?_
                          refine h_iconst (pc' := 237) (x := (Int32.ofInt 1)) rfl rfl rfl ?_
                          refine h_call (sp := false) (pc' := 240) (M := [(0, .ref 98), (1, .int (Int32.ofInt 1))]) rfl rfl rfl rfl rfl rfl rfl rfl ?_
                          refine h_aload_n (pc' := 1) rfl rfl rfl ?_
                          refine h_getI (pc' := 4) (v := s243 98 13) rfl rfl rfl rfl rfl rfl (fun z248 hz248 => ?_)
                          have tz248 := tf_98_13 Is243
                          refine h_zne (tg := 20) (pc' := 7) rfl rfl rfl hz248 (fun c249 => ?_) (fun c249 => ?_)
                          · refine h_vret rfl rfl (h_Kn ?_)
                            refine h_goto (pc' := 269) rfl rfl ?_
                            exact h_vret rfl rfl (kk _ Is243 Fs243 (by omega) (by omega) (by omega))
                          · refine h_aload_n (pc' := 8) rfl rfl rfl ?_
                            refine h_iload_n (pc' := 9) rfl rfl rfl ?_
                            refine h_put (pc' := 12) rfl rfl rfl rfl rfl rfl ci_1 rfl ?_
                            have Is250 : h_I (h_up s243 98 13 1) := (if_98_13 Is243 (by omega))
                            have Fs250 := (Fs243.up (q := 98) (a := 13) (v := 1) rfl)
                            have es250_0 : h_up s243 98 13 1 98 15 = s243 98 15 := rfl
                            have es250_1 : h_up s243 98 13 1 98 16 = s243 98 16 := rfl
                            have es250_2 : h_up s243 98 13 1 98 17 = s243 98 17 := rfl
                            have es250_3 : h_up s243 98 13 1 98 18 = s243 98 18 := rfl
                            have es250_4 : h_up s243 98 13 1 98 13 = 1 := rfl
                            generalize h_up s243 98 13 1 = s250 at Is250 Fs250 es250_0 es250_1 es250_2 es250_3 es250_4 ⊢
                            refine h_aload_n (pc' := 13) rfl rfl rfl ?_
                            refine h_aload_n (pc' := 14) rfl rfl rfl ?_
                            refine h_getI (pc' := 17) (v := s250 98 16) rfl rfl rfl rfl rfl rfl (fun z251 hz251 => ?_)
                            have tz251 := tf_98_16 Is250
                            refine h_put (pc' := 20) rfl rfl rfl rfl rfl rfl hz251 rfl ?_
                            have Is252 : h_I (h_up s250 98 14 (s250 98 16)) := (if_98_14 Is250 (h_rgv hz251))
                            have Fs252 := (Fs250.up (q := 98) (a := 14) (v := (s250 98 16)) rfl)
                            have es252_0 : h_up s250 98 14 (s250 98 16) 98 15 = s250 98 15 := rfl
                            have es252_1 : h_up s250 98 14 (s250 98 16) 98 16 = s250 98 16 := rfl
                            have es252_2 : h_up s250 98 14 (s250 98 16) 98 17 = s250 98 17 := rfl
                            have es252_3 : h_up s250 98 14 (s250 98 16) 98 18 = s250 98 18 := rfl
                            have es252_4 : h_up s250 98 14 (s250 98 16) 98 13 = s250 98 13 := rfl
                            generalize h_up s250 98 14 (s250 98 16) = s252 at Is252 Fs252 es252_0 es252_1 es252_2 es252_3 es252_4 ⊢
                            refine h_vret rfl rfl (h_Kn ?_)
                            refine h_goto (pc' := 269) rfl rfl ?_
                            exact h_vret rfl rfl (kk _ Is252 Fs252 (by omega) (by omega) (by omega))
                      · refine h_iconst (pc' := 14) (x := (Int32.ofInt 1)) rfl rfl rfl ?_
                        refine h_goto (pc' := 18) rfl rfl ?_
                        refine h_zret rfl rfl ci_1 (by omega) (h_Kv ?_)
                        refine h_zeq (tg := 217) (pc' := 161) rfl rfl rfl ci_1 (fun c253 => absurd c253 (by omega)) (fun c253 => ?_)
                        refine h_aload_n (pc' := 162) rfl rfl rfl ?_
                        refine h_aload_n (pc' := 163) rfl rfl rfl ?_
                        refine h_getI (pc' := 166) (v := s174 98 15) rfl rfl rfl rfl rfl rfl (fun z254 hz254 => ?_)
                        have tz254 := tf_98_15 Is174
                        refine h_aload_n (pc' := 167) rfl rfl rfl ?_
                        refine h_getI (pc' := 170) (v := s174 98 16) rfl rfl rfl rfl rfl rfl (fun z255 hz255 => ?_)
                        have tz255 := tf_98_16 Is174
                        refine h_isub (pc' := 171) rfl rfl hz254 hz255 rfl (by omega) (by omega) (fun z256 hz256 => ?_)
                        refine h_iconst (pc' := 172) (x := (Int32.ofInt 2)) rfl rfl rfl ?_
                        refine h_cge (tg := 197) (pc' := 175) rfl rfl rfl hz256 ci_2 (fun c257 => ?_) (fun c257 => ?_)
                        · refine h_aload_n (pc' := 198) rfl rfl rfl ?_
                          refine h_getI (pc' := 201) (v := s174 98 18) rfl rfl rfl rfl rfl rfl (fun z258 hz258 => ?_)
                          have tz258 := tf_98_18 Is174
                          refine h_put (pc' := 204) rfl rfl rfl rfl rfl rfl hz258 rfl ?_
                          have Is259 : h_I (h_up s174 98 18 (s174 98 18)) := (if_98_18 Is174 (by omega))
                          have Fs259 := (Fs174.up (q := 98) (a := 18) (v := (s174 98 18)) rfl)
                          have es259_0 : h_up s174 98 18 (s174 98 18) 98 15 = s174 98 15 := rfl
                          have es259_1 : h_up s174 98 18 (s174 98 18) 98 16 = s174 98 16 := rfl
                          have es259_2 : h_up s174 98 18 (s174 98 18) 98 17 = s174 98 17 := rfl
                          have es259_3 : h_up s174 98 18 (s174 98 18) 98 18 = (s174 98 18) := rfl
                          have es259_4 : h_up s174 98 18 (s174 98 18) 98 13 = s174 98 13 := rfl
                          generalize h_up s174 98 18 (s174 98 18) = s259 at Is259 Fs259 es259_0 es259_1 es259_2 es259_3 es259_4 ⊢
                          refine h_aload_n (pc' := 205) rfl rfl rfl ?_
                          refine h_dup (pc' := 206) rfl rfl rfl ?_
                          refine h_getI (pc' := 209) (v := s259 98 15) rfl rfl rfl rfl rfl rfl (fun z260 hz260 => ?_)
                          have tz260 := tf_98_15 Is259
                          refine h_iconst (pc' := 210) (x := (Int32.ofInt 1)) rfl rfl rfl ?_
                          refine h_iadd (pc' := 211) rfl rfl hz260 ci_1 rfl (by omega) (by omega) (fun z261 hz261 => ?_)
                          refine h_put (pc' := 214) rfl rfl rfl rfl rfl rfl hz261 rfl ?_
                          have Is262 : h_I (h_up s259 98 15 ((s259 98 15) + 1)) := (if_98_15 Is259 (by omega))
                          have Fs262 := (Fs259.up (q := 98) (a := 15) (v := ((s259 98 15) + 1)) rfl)
                          have es262_0 : h_up s259 98 15 ((s259 98 15) + 1) 98 15 = ((s259 98 15) + 1) := rfl
                          have es262_1 : h_up s259 98 15 ((s259 98 15) + 1) 98 16 = s259 98 16 := rfl
                          have es262_2 : h_up s259 98 15 ((s259 98 15) + 1) 98 17 = s259 98 17 := rfl
                          have es262_3 : h_up s259 98 15 ((s259 98 15) + 1) 98 18 = s259 98 18 := rfl
                          have es262_4 : h_up s259 98 15 ((s259 98 15) + 1) 98 13 = s259 98 13 := rfl
                          generalize h_up s259 98 15 ((s259 98 15) + 1) = s262 at Is262 Fs262 es262_0 es262_1 es262_2 es262_3 es262_4 ⊢
                          refine h_goto (pc' := 140) rfl rfl ?_
                          exact h_wk [(0, .ref 98), (1, .int z173)] ⟨rfl, rfl, trivial⟩ (ih.2.2 _ Is262 Fs262 z173 _ hz173 (by omega) (by omega) (by omega) (by omega) (by omega) (by omega) (by omega))
                        · refine h_bipush (pc' := 177) (x := (Int32.ofInt 10)) rfl rfl cb_10 ?_
                          refine h_aload_n (pc' := 178) rfl rfl rfl ?_
                          refine h_getI (pc' := 181) (v := s174 98 18) rfl rfl rfl rfl rfl rfl (fun z263 hz263 => ?_)
                          have tz263 := tf_98_18 Is174
                          refine h_imul (pc' := 182) rfl rfl ci_10 hz263 rfl (by omega) (by omega) (fun z264 hz264 => ?_)
                          refine h_aload_n (pc' := 183) rfl rfl rfl ?_
                          refine h_aload_n (pc' := 184) rfl rfl rfl ?_
                          refine h_getI (pc' := 187) (v := s174 98 15) rfl rfl rfl rfl rfl rfl (fun z265 hz265 => ?_)
                          have tz265 := tf_98_15 Is174
                          refine h_call (sp := false) (pc' := 190) (M := [(0, .ref 98), (1, .int z265)]) rfl rfl rfl rfl rfl rfl rfl rfl ?_
                          refine h_iload_n (pc' := 1) rfl rfl rfl ?_
                          refine h_aload_n (pc' := 2) rfl rfl rfl ?_
                          refine h_getI (pc' := 5) (v := σ 98 11) rfl rfl rfl rfl rfl (Fs174 98 11 rfl) (fun z266 hz266 => ?_)
                          have tz266 := tf_98_11 hI
                          refine h_cge (tg := 17) (pc' := 8) rfl rfl rfl hz265 hz266 (fun c267 => ?_) (fun c267 => ?_)
                          · refine h_bipush (pc' := 19) (x := (Int32.ofInt (-4))) rfl rfl cb_m4 ?_
                            refine h_iret rfl rfl (h_Kv ?_)
                            refine h_iadd (pc' := 191) rfl rfl hz264 ci_m4 rfl (by omega) (by omega) (fun z268 hz268 => ?_)
                            refine h_bipush (pc' := 193) (x := (Int32.ofInt 48)) rfl rfl cb_48 ?_
                            refine h_isub (pc' := 194) rfl rfl hz268 ci_48 rfl (by omega) (by omega) (fun z269 hz269 => ?_)
                            refine h_goto (pc' := 201) rfl rfl ?_
                            refine h_put (pc' := 204) rfl rfl rfl rfl rfl rfl hz269 rfl ?_
                            have Is270 : h_I (h_up s174 98 18 (((10 * (s174 98 18)) + (-4)) - 48)) := (if_98_18 Is174 (by omega))
                            have Fs270 := (Fs174.up (q := 98) (a := 18) (v := (((10 * (s174 98 18)) + (-4)) - 48)) rfl)
                            have es270_0 : h_up s174 98 18 (((10 * (s174 98 18)) + (-4)) - 48) 98 15 = s174 98 15 := rfl
                            have es270_1 : h_up s174 98 18 (((10 * (s174 98 18)) + (-4)) - 48) 98 16 = s174 98 16 := rfl
                            have es270_2 : h_up s174 98 18 (((10 * (s174 98 18)) + (-4)) - 48) 98 17 = s174 98 17 := rfl
                            have es270_3 : h_up s174 98 18 (((10 * (s174 98 18)) + (-4)) - 48) 98 18 = (((10 * (s174 98 18)) + (-4)) - 48) := rfl
                            have es270_4 : h_up s174 98 18 (((10 * (s174 98 18)) + (-4)) - 48) 98 13 = s174 98 13 := rfl
                            generalize h_up s174 98 18 (((10 * (s174 98 18)) + (-4)) - 48) = s270 at Is270 Fs270 es270_0 es270_1 es270_2 es270_3 es270_4 ⊢
                            refine h_aload_n (pc' := 205) rfl rfl rfl ?_
                            refine h_dup (pc' := 206) rfl rfl rfl ?_
                            refine h_getI (pc' := 209) (v := s270 98 15) rfl rfl rfl rfl rfl rfl (fun z271 hz271 => ?_)
                            have tz271 := tf_98_15 Is270
                            refine h_iconst (pc' := 210) (x := (Int32.ofInt 1)) rfl rfl rfl ?_
                            refine h_iadd (pc' := 211) rfl rfl hz271 ci_1 rfl (by omega) (by omega) (fun z272 hz272 => ?_)
                            refine h_put (pc' := 214) rfl rfl rfl rfl rfl rfl hz272 rfl ?_
                            have Is273 : h_I (h_up s270 98 15 ((s270 98 15) + 1)) := (if_98_15 Is270 (by omega))
                            have Fs273 := (Fs270.up (q := 98) (a := 15) (v := ((s270 98 15) + 1)) rfl)
                            have es273_0 : h_up s270 98 15 ((s270 98 15) + 1) 98 15 = ((s270 98 15) + 1) := rfl
                            have es273_1 : h_up s270 98 15 ((s270 98 15) + 1) 98 16 = s270 98 16 := rfl
                            have es273_2 : h_up s270 98 15 ((s270 98 15) + 1) 98 17 = s270 98 17 := rfl
                            have es273_3 : h_up s270 98 15 ((s270 98 15) + 1) 98 18 = s270 98 18 := rfl
                            have es273_4 : h_up s270 98 15 ((s270 98 15) + 1) 98 13 = s270 98 13 := rfl
                            generalize h_up s270 98 15 ((s270 98 15) + 1) = s273 at Is273 Fs273 es273_0 es273_1 es273_2 es273_3 es273_4 ⊢
                            refine h_goto (pc' := 140) rfl rfl ?_
                            exact h_wk [(0, .ref 98), (1, .int z173)] ⟨rfl, rfl, trivial⟩ (ih.2.2 _ Is273 Fs273 z173 _ hz173 (by omega) (by omega) (by omega) (by omega) (by omega) (by omega) (by omega))
                          · refine h_aload_n (pc' := 9) rfl rfl rfl ?_
                            refine h_getR (pc' := 12) rfl rfl rfl rfl rfl ?_
                            refine h_iload_n (pc' := 13) rfl rfl rfl ?_
                            refine h_iald (pc' := 14) (v := σ 102 (s174 98 15)) rfl rfl rfl hz265 (by omega) (by omega) (Fs174 102 _ rfl) (fun z274 hz274 => ?_)
                            have tz274 := ty_102 hI (s174 98 15)
                            have kz274_0 : (s174 98 15) = (s0 98 15) → σ 102 (s174 98 15) = σ 102 (s0 98 15) := fun h => congrArg (σ 102) h
                            have kz274_1 : (s174 98 15) = (s166 98 15) → σ 102 (s174 98 15) = σ 102 (s166 98 15) := fun h => congrArg (σ 102) h
                            refine h_goto (pc' := 19) rfl rfl ?_
                            refine h_iret rfl rfl (h_Kv ?_)
                            refine h_iadd (pc' := 191) rfl rfl hz264 hz274 rfl (by omega) (by omega) (fun z275 hz275 => ?_)
                            refine h_bipush (pc' := 193) (x := (Int32.ofInt 48)) rfl rfl cb_48 ?_
                            refine h_isub (pc' := 194) rfl rfl hz275 ci_48 rfl (by omega) (by omega) (fun z276 hz276 => ?_)
                            refine h_goto (pc' := 201) rfl rfl ?_
                            refine h_put (pc' := 204) rfl rfl rfl rfl rfl rfl hz276 rfl ?_
                            have Is277 : h_I (h_up s174 98 18 (((10 * (s174 98 18)) + (σ 102 (s174 98 15))) - 48)) := (if_98_18 Is174 (by omega))
                            have Fs277 := (Fs174.up (q := 98) (a := 18) (v := (((10 * (s174 98 18)) + (σ 102 (s174 98 15))) - 48)) rfl)
                            have es277_0 : h_up s174 98 18 (((10 * (s174 98 18)) + (σ 102 (s174 98 15))) - 48) 98 15 = s174 98 15 := rfl
                            have es277_1 : h_up s174 98 18 (((10 * (s174 98 18)) + (σ 102 (s174 98 15))) - 48) 98 16 = s174 98 16 := rfl
                            have es277_2 : h_up s174 98 18 (((10 * (s174 98 18)) + (σ 102 (s174 98 15))) - 48) 98 17 = s174 98 17 := rfl
                            have es277_3 : h_up s174 98 18 (((10 * (s174 98 18)) + (σ 102 (s174 98 15))) - 48) 98 18 = (((10 * (s174 98 18)) + (σ 102 (s174 98 15))) - 48) := rfl
                            have es277_4 : h_up s174 98 18 (((10 * (s174 98 18)) + (σ 102 (s174 98 15))) - 48) 98 13 = s174 98 13 := rfl
                            generalize h_up s174 98 18 (((10 * (s174 98 18)) + (σ 102 (s174 98 15))) - 48) = s277 at Is277 Fs277 es277_0 es277_1 es277_2 es277_3 es277_4 ⊢
                            refine h_aload_n (pc' := 205) rfl rfl rfl ?_
                            refine h_dup (pc' := 206) rfl rfl rfl ?_
                            refine h_getI (pc' := 209) (v := s277 98 15) rfl rfl rfl rfl rfl rfl (fun z278 hz278 => ?_)
                            have tz278 := tf_98_15 Is277
                            refine h_iconst (pc' := 210) (x := (Int32.ofInt 1)) rfl rfl rfl ?_
                            refine h_iadd (pc' := 211) rfl rfl hz278 ci_1 rfl (by omega) (by omega) (fun z279 hz279 => ?_)
                            refine h_put (pc' := 214) rfl rfl rfl rfl rfl rfl hz279 rfl ?_
                            have Is280 : h_I (h_up s277 98 15 ((s277 98 15) + 1)) := (if_98_15 Is277 (by omega))
                            have Fs280 := (Fs277.up (q := 98) (a := 15) (v := ((s277 98 15) + 1)) rfl)
                            have es280_0 : h_up s277 98 15 ((s277 98 15) + 1) 98 15 = ((s277 98 15) + 1) := rfl
                            have es280_1 : h_up s277 98 15 ((s277 98 15) + 1) 98 16 = s277 98 16 := rfl
                            have es280_2 : h_up s277 98 15 ((s277 98 15) + 1) 98 17 = s277 98 17 := rfl
                            have es280_3 : h_up s277 98 15 ((s277 98 15) + 1) 98 18 = s277 98 18 := rfl
                            have es280_4 : h_up s277 98 15 ((s277 98 15) + 1) 98 13 = s277 98 13 := rfl
                            generalize h_up s277 98 15 ((s277 98 15) + 1) = s280 at Is280 Fs280 es280_0 es280_1 es280_2 es280_3 es280_4 ⊢
                            refine h_goto (pc' := 140) rfl rfl ?_
                            exact h_wk [(0, .ref 98), (1, .int z173)] ⟨rfl, rfl, trivial⟩ (ih.2.2 _ Is280 Fs280 z173 _ hz173 (by omega) (by omega) (by omega) (by omega) (by omega) (by omega) (by omega))
            · refine h_lload_n (pc' := 7) rfl rfl rfl ?_
              refine h_lload (pc' := 9) rfl rfl rfl ?_
              refine h_lcmp (pc' := 10) rfl rfl hz176 cl_122 (fun z281 hz281 => ?_)
              refine h_zgt (tg := 17) (pc' := 13) rfl rfl rfl rfl (fun c282 => ?_) (fun c282 => ?_)
              · refine h_iconst (pc' := 18) (x := (Int32.ofInt 0)) rfl rfl rfl ?_
                refine h_zret rfl rfl ci_0 (by omega) (h_Kv ?_)
                refine h_zeq (tg := 126) (pc' := 84) rfl rfl rfl ci_0 (fun c283 => ?_) (fun c283 => absurd c283 (by omega))
                refine h_iload_n (pc' := 127) rfl rfl rfl ?_
                refine h_i2l (pc' := 128) rfl rfl hz173 (fun z284 hz284 => ?_)
                refine h_ldc2 (pc' := 131) (x := (Int64.ofInt 48)) rfl rfl rfl ?_
                refine h_ldc2 (pc' := 134) (x := (Int64.ofInt 57)) rfl rfl rfl ?_
                refine h_calls (pc' := 137) (M := [(0, .long z284), (2, .long (Int64.ofInt 48)), (4, .long (Int64.ofInt 57))]) rfl rfl rfl rfl rfl rfl ?_
                refine h_lload_n (pc' := 1) rfl rfl rfl ?_
                refine h_lload_n (pc' := 2) rfl rfl rfl ?_
                refine h_lcmp (pc' := 3) rfl rfl hz284 cl_48 (fun z285 hz285 => ?_)
                refine h_zlt (tg := 17) (pc' := 6) rfl rfl rfl rfl (fun c286 => absurd c286 (by omega)) (fun c286 => ?_)
                refine h_lload_n (pc' := 7) rfl rfl rfl ?_
                refine h_lload (pc' := 9) rfl rfl rfl ?_
                refine h_lcmp (pc' := 10) rfl rfl hz284 cl_57 (fun z287 hz287 => ?_)
                refine h_zgt (tg := 17) (pc' := 13) rfl rfl rfl rfl (fun c288 => ?_) (fun c288 => absurd c288 (by omega))
                refine h_iconst (pc' := 18) (x := (Int32.ofInt 0)) rfl rfl rfl ?_
                refine h_zret rfl rfl ci_0 (by omega) (h_Kv ?_)
                refine h_zeq (tg := 243) (pc' := 140) rfl rfl rfl ci_0 (fun c289 => ?_) (fun c289 => absurd c289 (by omega))
                refine h_aload_n (pc' := 244) rfl rfl rfl ?_
                refine h_iconst (pc' := 245) (x := (Int32.ofInt 3)) rfl rfl rfl ?_
                refine h_put (pc' := 248) rfl rfl rfl rfl rfl rfl ci_3 rfl ?_
                have Is290 : h_I (h_up s174 98 17 3) := (if_98_17 Is174 (by omega))
                have Fs290 := (Fs174.up (q := 98) (a := 17) (v := 3) rfl)
                have es290_0 : h_up s174 98 17 3 98 15 = s174 98 15 := rfl
                have es290_1 : h_up s174 98 17 3 98 16 = s174 98 16 := rfl
                have es290_2 : h_up s174 98 17 3 98 17 = 3 := rfl
                have es290_3 : h_up s174 98 17 3 98 18 = s174 98 18 := rfl
                have es290_4 : h_up s174 98 17 3 98 13 = s174 98 13 := rfl
                generalize h_up s174 98 17 3 = s290 at Is290 Fs290 es290_0 es290_1 es290_2 es290_3 es290_4 ⊢
                refine h_aload_n (pc' := 249) rfl rfl rfl ?_
                refine h_dup (pc' := 250) rfl rfl rfl ?_
                refine h_getI (pc' := 253) (v := s290 98 15) rfl rfl rfl rfl rfl rfl (fun z291 hz291 => ?_)
                have tz291 := tf_98_15 Is290
                refine h_iconst (pc' := 254) (x := (Int32.ofInt 1)) rfl rfl rfl ?_
                refine h_iadd (pc' := 255) rfl rfl hz291 ci_1 rfl (by omega) (by omega) (fun z292 hz292 => ?_)
                refine h_put (pc' := 258) rfl rfl rfl rfl rfl rfl hz292 rfl ?_
                have Is293 : h_I (h_up s290 98 15 ((s290 98 15) + 1)) := (if_98_15 Is290 (by omega))
                have Fs293 := (Fs290.up (q := 98) (a := 15) (v := ((s290 98 15) + 1)) rfl)
                have es293_0 : h_up s290 98 15 ((s290 98 15) + 1) 98 15 = ((s290 98 15) + 1) := rfl
                have es293_1 : h_up s290 98 15 ((s290 98 15) + 1) 98 16 = s290 98 16 := rfl
                have es293_2 : h_up s290 98 15 ((s290 98 15) + 1) 98 17 = s290 98 17 := rfl
                have es293_3 : h_up s290 98 15 ((s290 98 15) + 1) 98 18 = s290 98 18 := rfl
                have es293_4 : h_up s290 98 15 ((s290 98 15) + 1) 98 13 = s290 98 13 := rfl
                generalize h_up s290 98 15 ((s290 98 15) + 1) = s293 at Is293 Fs293 es293_0 es293_1 es293_2 es293_3 es293_4 ⊢
                refine h_iload_n (pc' := 259) rfl rfl rfl ?_
                refine h_bipush (pc' := 261) (x := (Int32.ofInt 59)) rfl rfl cb_59 ?_
                refine h_ceq (tg := 269) (pc' := 264) rfl rfl rfl hz173 ci_59 (fun c294 => absurd c294 (by omega)) (fun c294 => ?_)
                refine h_aload_n (pc' := 265) rfl rfl rfl ?_
                refine h_iconst (pc' := 266) (x := (Int32.ofInt 1)) rfl rfl rfl ?_
                refine h_call (sp := false) (pc' := 269) (M := [(0, .ref 98), (1, .int (Int32.ofInt 1))]) rfl rfl rfl rfl rfl rfl rfl rfl ?_
                refine h_aload_n (pc' := 1) rfl rfl rfl ?_
                refine h_getI (pc' := 4) (v := s293 98 13) rfl rfl rfl rfl rfl rfl (fun z295 hz295 => ?_)
                have tz295 := tf_98_13 Is293
                refine h_zne (tg := 20) (pc' := 7) rfl rfl rfl hz295 (fun c296 => ?_) (fun c296 => ?_)
                · refine h_vret rfl rfl (h_Kn ?_)
                  exact h_vret rfl rfl (kk _ Is293 Fs293 (by omega) (by omega) (by omega))
                · refine h_aload_n (pc' := 8) rfl rfl rfl ?_
                  refine h_iload_n (pc' := 9) rfl rfl rfl ?_
                  refine h_put (pc' := 12) rfl rfl rfl rfl rfl rfl ci_1 rfl ?_
                  have Is297 : h_I (h_up s293 98 13 1) := (if_98_13 Is293 (by omega))
                  have Fs297 := (Fs293.up (q := 98) (a := 13) (v := 1) rfl)
                  have es297_0 : h_up s293 98 13 1 98 15 = s293 98 15 := rfl
                  have es297_1 : h_up s293 98 13 1 98 16 = s293 98 16 := rfl
                  have es297_2 : h_up s293 98 13 1 98 17 = s293 98 17 := rfl
                  have es297_3 : h_up s293 98 13 1 98 18 = s293 98 18 := rfl
                  have es297_4 : h_up s293 98 13 1 98 13 = 1 := rfl
                  generalize h_up s293 98 13 1 = s297 at Is297 Fs297 es297_0 es297_1 es297_2 es297_3 es297_4 ⊢
                  refine h_aload_n (pc' := 13) rfl rfl rfl ?_
                  refine h_aload_n (pc' := 14) rfl rfl rfl ?_
                  refine h_getI (pc' := 17) (v := s297 98 16) rfl rfl rfl rfl rfl rfl (fun z298 hz298 => ?_)
                  have tz298 := tf_98_16 Is297
                  refine h_put (pc' := 20) rfl rfl rfl rfl rfl rfl hz298 rfl ?_
                  have Is299 : h_I (h_up s297 98 14 (s297 98 16)) := (if_98_14 Is297 (h_rgv hz298))
                  have Fs299 := (Fs297.up (q := 98) (a := 14) (v := (s297 98 16)) rfl)
                  have es299_0 : h_up s297 98 14 (s297 98 16) 98 15 = s297 98 15 := rfl
                  have es299_1 : h_up s297 98 14 (s297 98 16) 98 16 = s297 98 16 := rfl
                  have es299_2 : h_up s297 98 14 (s297 98 16) 98 17 = s297 98 17 := rfl
                  have es299_3 : h_up s297 98 14 (s297 98 16) 98 18 = s297 98 18 := rfl
                  have es299_4 : h_up s297 98 14 (s297 98 16) 98 13 = s297 98 13 := rfl
                  generalize h_up s297 98 14 (s297 98 16) = s299 at Is299 Fs299 es299_0 es299_1 es299_2 es299_3 es299_4 ⊢
                  refine h_vret rfl rfl (h_Kn ?_)
                  exact h_vret rfl rfl (kk _ Is299 Fs299 (by omega) (by omega) (by omega))
              · refine h_iconst (pc' := 14) (x := (Int32.ofInt 1)) rfl rfl rfl ?_
                refine h_goto (pc' := 18) rfl rfl ?_
                refine h_zret rfl rfl ci_1 (by omega) (h_Kv ?_)
                refine h_zeq (tg := 126) (pc' := 84) rfl rfl rfl ci_1 (fun c300 => absurd c300 (by omega)) (fun c300 => ?_)
                refine h_aload_n (pc' := 85) rfl rfl rfl ?_
                refine h_aload_n (pc' := 86) rfl rfl rfl ?_
                refine h_getI (pc' := 89) (v := s174 98 15) rfl rfl rfl rfl rfl rfl (fun z301 hz301 => ?_)
                have tz301 := tf_98_15 Is174
                refine h_call (sp := false) (pc' := 92) (M := [(0, .ref 98), (1, .int z301)]) rfl rfl rfl rfl rfl rfl rfl rfl ?_
                refine h_iload_n (pc' := 1) rfl rfl rfl ?_
                refine h_aload_n (pc' := 2) rfl rfl rfl ?_
                refine h_getI (pc' := 5) (v := σ 98 11) rfl rfl rfl rfl rfl (Fs174 98 11 rfl) (fun z302 hz302 => ?_)
                have tz302 := tf_98_11 hI
                refine h_cge (tg := 17) (pc' := 8) rfl rfl rfl hz301 hz302 (fun c303 => ?_) (fun c303 => ?_)
                · refine h_bipush (pc' := 19) (x := (Int32.ofInt (-4))) rfl rfl cb_m4 ?_
                  refine h_iret rfl rfl (h_Kv ?_)
                  refine h_i2l (pc' := 93) rfl rfl ci_m4 (fun z304 hz304 => ?_)
                  refine h_ldc2 (pc' := 96) (x := (Int64.ofInt 97)) rfl rfl rfl ?_
                  refine h_ldc2 (pc' := 99) (x := (Int64.ofInt 122)) rfl rfl rfl ?_
                  refine h_calls (pc' := 102) (M := [(0, .long z304), (2, .long (Int64.ofInt 97)), (4, .long (Int64.ofInt 122))]) rfl rfl rfl rfl rfl rfl ?_
                  refine h_lload_n (pc' := 1) rfl rfl rfl ?_
                  refine h_lload_n (pc' := 2) rfl rfl rfl ?_
                  refine h_lcmp (pc' := 3) rfl rfl hz304 cl_97 (fun z305 hz305 => ?_)
                  refine h_zlt (tg := 17) (pc' := 6) rfl rfl rfl rfl (fun c306 => ?_) (fun c306 => absurd c306 (by omega))
                  refine h_iconst (pc' := 18) (x := (Int32.ofInt 0)) rfl rfl rfl ?_
                  refine h_zret rfl rfl ci_0 (by omega) (h_Kv ?_)
                  refine h_zeq (tg := 118) (pc' := 105) rfl rfl rfl ci_0 (fun c307 => ?_) (fun c307 => absurd c307 (by omega))
                  refine h_aload_n (pc' := 119) rfl rfl rfl ?_
                  refine h_iconst (pc' := 120) (x := (Int32.ofInt 1)) rfl rfl rfl ?_
                  refine h_put (pc' := 123) rfl rfl rfl rfl rfl rfl ci_1 rfl ?_
                  have Is308 : h_I (h_up s174 98 17 1) := (if_98_17 Is174 (by omega))
                  have Fs308 := (Fs174.up (q := 98) (a := 17) (v := 1) rfl)
                  have es308_0 : h_up s174 98 17 1 98 15 = s174 98 15 := rfl
                  have es308_1 : h_up s174 98 17 1 98 16 = s174 98 16 := rfl
                  have es308_2 : h_up s174 98 17 1 98 17 = 1 := rfl
                  have es308_3 : h_up s174 98 17 1 98 18 = s174 98 18 := rfl
                  have es308_4 : h_up s174 98 17 1 98 13 = s174 98 13 := rfl
                  generalize h_up s174 98 17 1 = s308 at Is308 Fs308 es308_0 es308_1 es308_2 es308_3 es308_4 ⊢
                  refine h_goto (pc' := 269) rfl rfl ?_
                  exact h_vret rfl rfl (kk _ Is308 Fs308 (by omega) (by omega) (by omega))
                · refine h_aload_n (pc' := 9) rfl rfl rfl ?_
                  refine h_getR (pc' := 12) rfl rfl rfl rfl rfl ?_
                  refine h_iload_n (pc' := 13) rfl rfl rfl ?_
                  refine h_iald (pc' := 14) (v := σ 102 (s174 98 15)) rfl rfl rfl hz301 (by omega) (by omega) (Fs174 102 _ rfl) (fun z309 hz309 => ?_)
                  have tz309 := ty_102 hI (s174 98 15)
                  have kz309_0 : (s174 98 15) = (s0 98 15) → σ 102 (s174 98 15) = σ 102 (s0 98 15) := fun h => congrArg (σ 102) h
                  have kz309_1 : (s174 98 15) = (s166 98 15) → σ 102 (s174 98 15) = σ 102 (s166 98 15) := fun h => congrArg (σ 102) h
                  refine h_goto (pc' := 19) rfl rfl ?_
                  refine h_iret rfl rfl (h_Kv ?_)
                  refine h_i2l (pc' := 93) rfl rfl hz309 (fun z310 hz310 => ?_)
                  refine h_ldc2 (pc' := 96) (x := (Int64.ofInt 97)) rfl rfl rfl ?_
                  refine h_ldc2 (pc' := 99) (x := (Int64.ofInt 122)) rfl rfl rfl ?_
                  refine h_calls (pc' := 102) (M := [(0, .long z310), (2, .long (Int64.ofInt 97)), (4, .long (Int64.ofInt 122))]) rfl rfl rfl rfl rfl rfl ?_
                  refine h_lload_n (pc' := 1) rfl rfl rfl ?_
                  refine h_lload_n (pc' := 2) rfl rfl rfl ?_
                  refine h_lcmp (pc' := 3) rfl rfl hz310 cl_97 (fun z311 hz311 => ?_)
                  refine h_zlt (tg := 17) (pc' := 6) rfl rfl rfl rfl (fun c312 => ?_) (fun c312 => ?_)
                  · refine h_iconst (pc' := 18) (x := (Int32.ofInt 0)) rfl rfl rfl ?_
                    refine h_zret rfl rfl ci_0 (by omega) (h_Kv ?_)
                    refine h_zeq (tg := 118) (pc' := 105) rfl rfl rfl ci_0 (fun c313 => ?_) (fun c313 => absurd c313 (by omega))
                    refine h_aload_n (pc' := 119) rfl rfl rfl ?_
                    refine h_iconst (pc' := 120) (x := (Int32.ofInt 1)) rfl rfl rfl ?_
                    refine h_put (pc' := 123) rfl rfl rfl rfl rfl rfl ci_1 rfl ?_
                    have Is314 : h_I (h_up s174 98 17 1) := (if_98_17 Is174 (by omega))
                    have Fs314 := (Fs174.up (q := 98) (a := 17) (v := 1) rfl)
                    have es314_0 : h_up s174 98 17 1 98 15 = s174 98 15 := rfl
                    have es314_1 : h_up s174 98 17 1 98 16 = s174 98 16 := rfl
                    have es314_2 : h_up s174 98 17 1 98 17 = 1 := rfl
                    have es314_3 : h_up s174 98 17 1 98 18 = s174 98 18 := rfl
                    have es314_4 : h_up s174 98 17 1 98 13 = s174 98 13 := rfl
                    generalize h_up s174 98 17 1 = s314 at Is314 Fs314 es314_0 es314_1 es314_2 es314_3 es314_4 ⊢
                    refine h_goto (pc' := 269) rfl rfl ?_
                    exact h_vret rfl rfl (kk _ Is314 Fs314 (by omega) (by omega) (by omega))
                  · refine h_lload_n (pc' := 7) rfl rfl rfl ?_
                    refine h_lload (pc' := 9) rfl rfl rfl ?_
                    refine h_lcmp (pc' := 10) rfl rfl hz310 cl_122 (fun z315 hz315 => ?_)
                    refine h_zgt (tg := 17) (pc' := 13) rfl rfl rfl rfl (fun c316 => ?_) (fun c316 => ?_)
                    · refine h_iconst (pc' := 18) (x := (Int32.ofInt 0)) rfl rfl rfl ?_
                      refine h_zret rfl rfl ci_0 (by omega) (h_Kv ?_)
                      refine h_zeq (tg := 118) (pc' := 105) rfl rfl rfl ci_0 (fun c317 => ?_) (fun c317 => absurd c317 (by omega))
                      refine h_aload_n (pc' := 119) rfl rfl rfl ?_
                      refine h_iconst (pc' := 120) (x := (Int32.ofInt 1)) rfl rfl rfl ?_
                      refine h_put (pc' := 123) rfl rfl rfl rfl rfl rfl ci_1 rfl ?_
                      have Is318 : h_I (h_up s174 98 17 1) := (if_98_17 Is174 (by omega))
                      have Fs318 := (Fs174.up (q := 98) (a := 17) (v := 1) rfl)
                      have es318_0 : h_up s174 98 17 1 98 15 = s174 98 15 := rfl
                      have es318_1 : h_up s174 98 17 1 98 16 = s174 98 16 := rfl
                      have es318_2 : h_up s174 98 17 1 98 17 = 1 := rfl
                      have es318_3 : h_up s174 98 17 1 98 18 = s174 98 18 := rfl
                      have es318_4 : h_up s174 98 17 1 98 13 = s174 98 13 := rfl
                      generalize h_up s174 98 17 1 = s318 at Is318 Fs318 es318_0 es318_1 es318_2 es318_3 es318_4 ⊢
                      refine h_goto (pc' := 269) rfl rfl ?_
                      exact h_vret rfl rfl (kk _ Is318 Fs318 (by omega) (by omega) (by omega))
                    · refine h_iconst (pc' := 14) (x := (Int32.ofInt 1)) rfl rfl rfl ?_
                      refine h_goto (pc' := 18) rfl rfl ?_
                      refine h_zret rfl rfl ci_1 (by omega) (h_Kv ?_)
                      refine h_zeq (tg := 118) (pc' := 105) rfl rfl rfl ci_1 (fun c319 => absurd c319 (by omega)) (fun c319 => ?_)
                      refine h_aload_n (pc' := 106) rfl rfl rfl ?_
                      refine h_dup (pc' := 107) rfl rfl rfl ?_
                      refine h_getI (pc' := 110) (v := s174 98 15) rfl rfl rfl rfl rfl rfl (fun z320 hz320 => ?_)
                      have tz320 := tf_98_15 Is174
                      refine h_iconst (pc' := 111) (x := (Int32.ofInt 1)) rfl rfl rfl ?_
                      refine h_iadd (pc' := 112) rfl rfl hz320 ci_1 rfl (by omega) (by omega) (fun z321 hz321 => ?_)
                      refine h_put (pc' := 115) rfl rfl rfl rfl rfl rfl hz321 rfl ?_
                      have Is322 : h_I (h_up s174 98 15 ((s174 98 15) + 1)) := (if_98_15 Is174 (by omega))
                      have Fs322 := (Fs174.up (q := 98) (a := 15) (v := ((s174 98 15) + 1)) rfl)
                      have es322_0 : h_up s174 98 15 ((s174 98 15) + 1) 98 15 = ((s174 98 15) + 1) := rfl
                      have es322_1 : h_up s174 98 15 ((s174 98 15) + 1) 98 16 = s174 98 16 := rfl
                      have es322_2 : h_up s174 98 15 ((s174 98 15) + 1) 98 17 = s174 98 17 := rfl
                      have es322_3 : h_up s174 98 15 ((s174 98 15) + 1) 98 18 = s174 98 18 := rfl
                      have es322_4 : h_up s174 98 15 ((s174 98 15) + 1) 98 13 = s174 98 13 := rfl
                      generalize h_up s174 98 15 ((s174 98 15) + 1) = s322 at Is322 Fs322 es322_0 es322_1 es322_2 es322_3 es322_4 ⊢
                      refine h_goto (pc' := 84) rfl rfl ?_
                      exact h_wk [(0, .ref 98), (1, .int z173)] ⟨rfl, rfl, trivial⟩ (ih.2.1 _ Is322 Fs322 z173 _ hz173 (by omega) (by omega) (by omega) (by omega) (by omega) (by omega))
        · refine h_aload_n (pc' := 22) rfl rfl rfl ?_
          refine h_dup (pc' := 23) rfl rfl rfl ?_
          refine h_getI (pc' := 26) (v := s0 98 15) rfl rfl rfl rfl rfl rfl (fun z323 hz323 => ?_)
          have tz323 := tf_98_15 I0
          refine h_iconst (pc' := 27) (x := (Int32.ofInt 1)) rfl rfl rfl ?_
          refine h_iadd (pc' := 28) rfl rfl hz323 ci_1 rfl (by omega) (by omega) (fun z324 hz324 => ?_)
          refine h_put (pc' := 31) rfl rfl rfl rfl rfl rfl hz324 rfl ?_
          have Is325 : h_I (h_up s0 98 15 ((s0 98 15) + 1)) := (if_98_15 I0 (by omega))
          have Fs325 := (F0_.up (q := 98) (a := 15) (v := ((s0 98 15) + 1)) rfl)
          have es325_0 : h_up s0 98 15 ((s0 98 15) + 1) 98 15 = ((s0 98 15) + 1) := rfl
          have es325_1 : h_up s0 98 15 ((s0 98 15) + 1) 98 16 = s0 98 16 := rfl
          have es325_2 : h_up s0 98 15 ((s0 98 15) + 1) 98 17 = s0 98 17 := rfl
          have es325_3 : h_up s0 98 15 ((s0 98 15) + 1) 98 18 = s0 98 18 := rfl
          have es325_4 : h_up s0 98 15 ((s0 98 15) + 1) 98 13 = s0 98 13 := rfl
          generalize h_up s0 98 15 ((s0 98 15) + 1) = s325 at Is325 Fs325 es325_0 es325_1 es325_2 es325_3 es325_4 ⊢
          refine h_goto (pc' := 8) rfl rfl ?_
          exact h_wk [(0, .ref 98)] ⟨rfl, trivial⟩ (ih.1 _ Is325 Fs325  (by omega) (by omega) (by omega) (by omega))
    · intro s0 I0 F0_ y1 b1 hy1 ry1 ex0 ex1 ex2 ex3 hm
      refine h_aload_n (pc' := 85) rfl rfl rfl ?_
      refine h_aload_n (pc' := 86) rfl rfl rfl ?_
      refine h_getI (pc' := 89) (v := s0 98 15) rfl rfl rfl rfl rfl rfl (fun z1 hz1 => ?_)
      have tz1 := tf_98_15 I0
      refine h_call (sp := false) (pc' := 92) (M := [(0, .ref 98), (1, .int z1)]) rfl rfl rfl rfl rfl rfl rfl rfl ?_
      refine h_iload_n (pc' := 1) rfl rfl rfl ?_
      refine h_aload_n (pc' := 2) rfl rfl rfl ?_
      refine h_getI (pc' := 5) (v := σ 98 11) rfl rfl rfl rfl rfl (F0_ 98 11 rfl) (fun z2 hz2 => ?_)
      have tz2 := tf_98_11 hI
      refine h_cge (tg := 17) (pc' := 8) rfl rfl rfl hz1 hz2 (fun c3 => ?_) (fun c3 => ?_)
      · refine h_bipush (pc' := 19) (x := (Int32.ofInt (-4))) rfl rfl cb_m4 ?_
        refine h_iret rfl rfl (h_Kv ?_)
        refine h_i2l (pc' := 93) rfl rfl ci_m4 (fun z4 hz4 => ?_)
        refine h_ldc2 (pc' := 96) (x := (Int64.ofInt 97)) rfl rfl rfl ?_
        refine h_ldc2 (pc' := 99) (x := (Int64.ofInt 122)) rfl rfl rfl ?_
        refine h_calls (pc' := 102) (M := [(0, .long z4), (2, .long (Int64.ofInt 97)), (4, .long (Int64.ofInt 122))]) rfl rfl rfl rfl rfl rfl ?_
        refine h_lload_n (pc' := 1) rfl rfl rfl ?_
        refine h_lload_n (pc' := 2) rfl rfl rfl ?_
        refine h_lcmp (pc' := 3) rfl rfl hz4 cl_97 (fun z5 hz5 => ?_)
        refine h_zlt (tg := 17) (pc' := 6) rfl rfl rfl rfl (fun c6 => ?_) (fun c6 => absurd c6 (by omega))
        refine h_iconst (pc' := 18) (x := (Int32.ofInt 0)) rfl rfl rfl ?_
        refine h_zret rfl rfl ci_0 (by omega) (h_Kv ?_)
        refine h_zeq (tg := 118) (pc' := 105) rfl rfl rfl ci_0 (fun c7 => ?_) (fun c7 => absurd c7 (by omega))
        refine h_aload_n (pc' := 119) rfl rfl rfl ?_
        refine h_iconst (pc' := 120) (x := (Int32.ofInt 1)) rfl rfl rfl ?_
        refine h_put (pc' := 123) rfl rfl rfl rfl rfl rfl ci_1 rfl ?_
        have Is8 : h_I (h_up s0 98 17 1) := (if_98_17 I0 (by omega))
        have Fs8 := (F0_.up (q := 98) (a := 17) (v := 1) rfl)
        have es8_0 : h_up s0 98 17 1 98 15 = s0 98 15 := rfl
        have es8_1 : h_up s0 98 17 1 98 16 = s0 98 16 := rfl
        have es8_2 : h_up s0 98 17 1 98 17 = 1 := rfl
        have es8_3 : h_up s0 98 17 1 98 18 = s0 98 18 := rfl
        have es8_4 : h_up s0 98 17 1 98 13 = s0 98 13 := rfl
        generalize h_up s0 98 17 1 = s8 at Is8 Fs8 es8_0 es8_1 es8_2 es8_3 es8_4 ⊢
        refine h_goto (pc' := 269) rfl rfl ?_
        exact h_vret rfl rfl (kk _ Is8 Fs8 (by omega) (by omega) (by omega))
      · refine h_aload_n (pc' := 9) rfl rfl rfl ?_
        refine h_getR (pc' := 12) rfl rfl rfl rfl rfl ?_
        refine h_iload_n (pc' := 13) rfl rfl rfl ?_
        refine h_iald (pc' := 14) (v := σ 102 (s0 98 15)) rfl rfl rfl hz1 (by omega) (by omega) (F0_ 102 _ rfl) (fun z9 hz9 => ?_)
        have tz9 := ty_102 hI (s0 98 15)
        refine h_goto (pc' := 19) rfl rfl ?_
        refine h_iret rfl rfl (h_Kv ?_)
        refine h_i2l (pc' := 93) rfl rfl hz9 (fun z10 hz10 => ?_)
        refine h_ldc2 (pc' := 96) (x := (Int64.ofInt 97)) rfl rfl rfl ?_
        refine h_ldc2 (pc' := 99) (x := (Int64.ofInt 122)) rfl rfl rfl ?_
        refine h_calls (pc' := 102) (M := [(0, .long z10), (2, .long (Int64.ofInt 97)), (4, .long (Int64.ofInt 122))]) rfl rfl rfl rfl rfl rfl ?_
        refine h_lload_n (pc' := 1) rfl rfl rfl ?_
        refine h_lload_n (pc' := 2) rfl rfl rfl ?_
        refine h_lcmp (pc' := 3) rfl rfl hz10 cl_97 (fun z11 hz11 => ?_)
        refine h_zlt (tg := 17) (pc' := 6) rfl rfl rfl rfl (fun c12 => ?_) (fun c12 => ?_)
        · refine h_iconst (pc' := 18) (x := (Int32.ofInt 0)) rfl rfl rfl ?_
          refine h_zret rfl rfl ci_0 (by omega) (h_Kv ?_)
          refine h_zeq (tg := 118) (pc' := 105) rfl rfl rfl ci_0 (fun c13 => ?_) (fun c13 => absurd c13 (by omega))
          refine h_aload_n (pc' := 119) rfl rfl rfl ?_
          refine h_iconst (pc' := 120) (x := (Int32.ofInt 1)) rfl rfl rfl ?_
          refine h_put (pc' := 123) rfl rfl rfl rfl rfl rfl ci_1 rfl ?_
          have Is14 : h_I (h_up s0 98 17 1) := (if_98_17 I0 (by omega))
          have Fs14 := (F0_.up (q := 98) (a := 17) (v := 1) rfl)
          have es14_0 : h_up s0 98 17 1 98 15 = s0 98 15 := rfl
          have es14_1 : h_up s0 98 17 1 98 16 = s0 98 16 := rfl
          have es14_2 : h_up s0 98 17 1 98 17 = 1 := rfl
          have es14_3 : h_up s0 98 17 1 98 18 = s0 98 18 := rfl
          have es14_4 : h_up s0 98 17 1 98 13 = s0 98 13 := rfl
          generalize h_up s0 98 17 1 = s14 at Is14 Fs14 es14_0 es14_1 es14_2 es14_3 es14_4 ⊢
          refine h_goto (pc' := 269) rfl rfl ?_
          exact h_vret rfl rfl (kk _ Is14 Fs14 (by omega) (by omega) (by omega))
        · refine h_lload_n (pc' := 7) rfl rfl rfl ?_
          refine h_lload (pc' := 9) rfl rfl rfl ?_
          refine h_lcmp (pc' := 10) rfl rfl hz10 cl_122 (fun z15 hz15 => ?_)
          refine h_zgt (tg := 17) (pc' := 13) rfl rfl rfl rfl (fun c16 => ?_) (fun c16 => ?_)
          · refine h_iconst (pc' := 18) (x := (Int32.ofInt 0)) rfl rfl rfl ?_
            refine h_zret rfl rfl ci_0 (by omega) (h_Kv ?_)
            refine h_zeq (tg := 118) (pc' := 105) rfl rfl rfl ci_0 (fun c17 => ?_) (fun c17 => absurd c17 (by omega))
            refine h_aload_n (pc' := 119) rfl rfl rfl ?_
            refine h_iconst (pc' := 120) (x := (Int32.ofInt 1)) rfl rfl rfl ?_
            refine h_put (pc' := 123) rfl rfl rfl rfl rfl rfl ci_1 rfl ?_
            have Is18 : h_I (h_up s0 98 17 1) := (if_98_17 I0 (by omega))
            have Fs18 := (F0_.up (q := 98) (a := 17) (v := 1) rfl)
            have es18_0 : h_up s0 98 17 1 98 15 = s0 98 15 := rfl
            have es18_1 : h_up s0 98 17 1 98 16 = s0 98 16 := rfl
            have es18_2 : h_up s0 98 17 1 98 17 = 1 := rfl
            have es18_3 : h_up s0 98 17 1 98 18 = s0 98 18 := rfl
            have es18_4 : h_up s0 98 17 1 98 13 = s0 98 13 := rfl
            generalize h_up s0 98 17 1 = s18 at Is18 Fs18 es18_0 es18_1 es18_2 es18_3 es18_4 ⊢
            refine h_goto (pc' := 269) rfl rfl ?_
            exact h_vret rfl rfl (kk _ Is18 Fs18 (by omega) (by omega) (by omega))
          · refine h_iconst (pc' := 14) (x := (Int32.ofInt 1)) rfl rfl rfl ?_
            refine h_goto (pc' := 18) rfl rfl ?_
            refine h_zret rfl rfl ci_1 (by omega) (h_Kv ?_)
            refine h_zeq (tg := 118) (pc' := 105) rfl rfl rfl ci_1 (fun c19 => absurd c19 (by omega)) (fun c19 => ?_)
            refine h_aload_n (pc' := 106) rfl rfl rfl ?_
            refine h_dup (pc' := 107) rfl rfl rfl ?_
            refine h_getI (pc' := 110) (v := s0 98 15) rfl rfl rfl rfl rfl rfl (fun z20 hz20 => ?_)
            have tz20 := tf_98_15 I0
            refine h_iconst (pc' := 111) (x := (Int32.ofInt 1)) rfl rfl rfl ?_
            refine h_iadd (pc' := 112) rfl rfl hz20 ci_1 rfl (by omega) (by omega) (fun z21 hz21 => ?_)
            refine h_put (pc' := 115) rfl rfl rfl rfl rfl rfl hz21 rfl ?_
            have Is22 : h_I (h_up s0 98 15 ((s0 98 15) + 1)) := (if_98_15 I0 (by omega))
            have Fs22 := (F0_.up (q := 98) (a := 15) (v := ((s0 98 15) + 1)) rfl)
            have es22_0 : h_up s0 98 15 ((s0 98 15) + 1) 98 15 = ((s0 98 15) + 1) := rfl
            have es22_1 : h_up s0 98 15 ((s0 98 15) + 1) 98 16 = s0 98 16 := rfl
            have es22_2 : h_up s0 98 15 ((s0 98 15) + 1) 98 17 = s0 98 17 := rfl
            have es22_3 : h_up s0 98 15 ((s0 98 15) + 1) 98 18 = s0 98 18 := rfl
            have es22_4 : h_up s0 98 15 ((s0 98 15) + 1) 98 13 = s0 98 13 := rfl
            generalize h_up s0 98 15 ((s0 98 15) + 1) = s22 at Is22 Fs22 es22_0 es22_1 es22_2 es22_3 es22_4 ⊢
            refine h_goto (pc' := 84) rfl rfl ?_
            exact h_wk [(0, .ref 98), (1, .int y1)] ⟨rfl, rfl, trivial⟩ (ih.2.1 _ Is22 Fs22 y1 _ hy1 (by omega) (by omega) (by omega) (by omega) (by omega) (by omega))
    · intro s0 I0 F0_ y1 b1 hy1 ry1 ex0 ex1 ex2 ex3 ex4 hm
      refine h_aload_n (pc' := 141) rfl rfl rfl ?_
      refine h_aload_n (pc' := 142) rfl rfl rfl ?_
      refine h_getI (pc' := 145) (v := s0 98 15) rfl rfl rfl rfl rfl rfl (fun z1 hz1 => ?_)
      have tz1 := tf_98_15 I0
      refine h_call (sp := false) (pc' := 148) (M := [(0, .ref 98), (1, .int z1)]) rfl rfl rfl rfl rfl rfl rfl rfl ?_
      refine h_iload_n (pc' := 1) rfl rfl rfl ?_
      refine h_aload_n (pc' := 2) rfl rfl rfl ?_
      refine h_getI (pc' := 5) (v := σ 98 11) rfl rfl rfl rfl rfl (F0_ 98 11 rfl) (fun z2 hz2 => ?_)
      have tz2 := tf_98_11 hI
      refine h_cge (tg := 17) (pc' := 8) rfl rfl rfl hz1 hz2 (fun c3 => ?_) (fun c3 => ?_)
      · refine h_bipush (pc' := 19) (x := (Int32.ofInt (-4))) rfl rfl cb_m4 ?_
        refine h_iret rfl rfl (h_Kv ?_)
        refine h_i2l (pc' := 149) rfl rfl ci_m4 (fun z4 hz4 => ?_)
        refine h_ldc2 (pc' := 152) (x := (Int64.ofInt 48)) rfl rfl rfl ?_
        refine h_ldc2 (pc' := 155) (x := (Int64.ofInt 57)) rfl rfl rfl ?_
        refine h_calls (pc' := 158) (M := [(0, .long z4), (2, .long (Int64.ofInt 48)), (4, .long (Int64.ofInt 57))]) rfl rfl rfl rfl rfl rfl ?_
        refine h_lload_n (pc' := 1) rfl rfl rfl ?_
        refine h_lload_n (pc' := 2) rfl rfl rfl ?_
        refine h_lcmp (pc' := 3) rfl rfl hz4 cl_48 (fun z5 hz5 => ?_)
        refine h_zlt (tg := 17) (pc' := 6) rfl rfl rfl rfl (fun c6 => ?_) (fun c6 => absurd c6 (by omega))
        refine h_iconst (pc' := 18) (x := (Int32.ofInt 0)) rfl rfl rfl ?_
        refine h_zret rfl rfl ci_0 (by omega) (h_Kv ?_)
        refine h_zeq (tg := 217) (pc' := 161) rfl rfl rfl ci_0 (fun c7 => ?_) (fun c7 => absurd c7 (by omega))
        refine h_aload_n (pc' := 218) rfl rfl rfl ?_
        refine h_iconst (pc' := 219) (x := (Int32.ofInt 2)) rfl rfl rfl ?_
        refine h_put (pc' := 222) rfl rfl rfl rfl rfl rfl ci_2 rfl ?_
        have Is8 : h_I (h_up s0 98 17 2) := (if_98_17 I0 (by omega))
        have Fs8 := (F0_.up (q := 98) (a := 17) (v := 2) rfl)
        have es8_0 : h_up s0 98 17 2 98 15 = s0 98 15 := rfl
        have es8_1 : h_up s0 98 17 2 98 16 = s0 98 16 := rfl
        have es8_2 : h_up s0 98 17 2 98 17 = 2 := rfl
        have es8_3 : h_up s0 98 17 2 98 18 = s0 98 18 := rfl
        have es8_4 : h_up s0 98 17 2 98 13 = s0 98 13 := rfl
        generalize h_up s0 98 17 2 = s8 at Is8 Fs8 es8_0 es8_1 es8_2 es8_3 es8_4 ⊢
        refine h_aload_n (pc' := 223) rfl rfl rfl ?_
        refine h_getI (pc' := 226) (v := s8 98 15) rfl rfl rfl rfl rfl rfl (fun z9 hz9 => ?_)
        have tz9 := tf_98_15 Is8
        refine h_aload_n (pc' := 227) rfl rfl rfl ?_
        refine h_getI (pc' := 230) (v := s8 98 16) rfl rfl rfl rfl rfl rfl (fun z10 hz10 => ?_)
        have tz10 := tf_98_16 Is8
        refine h_isub (pc' := 231) rfl rfl hz9 hz10 rfl (by omega) (by omega) (fun z11 hz11 => ?_)
        refine h_iconst (pc' := 232) (x := (Int32.ofInt 2)) rfl rfl rfl ?_
        refine h_cle (tg := 269) (pc' := 235) rfl rfl rfl hz11 ci_2 (fun c12 => ?_) (fun c12 => ?_)
        · exact h_vret rfl rfl (kk _ Is8 Fs8 (by omega) (by omega) (by omega))
        · refine h_aload_n (pc' := 236) rfl rfl rfl ?_
          refine h_iconst (pc' := 237) (x := (Int32.ofInt 1)) rfl rfl rfl ?_
          refine h_call (sp := false) (pc' := 240) (M := [(0, .ref 98), (1, .int (Int32.ofInt 1))]) rfl rfl rfl rfl rfl rfl rfl rfl ?_
          refine h_aload_n (pc' := 1) rfl rfl rfl ?_
          refine h_getI (pc' := 4) (v := s8 98 13) rfl rfl rfl rfl rfl rfl (fun z13 hz13 => ?_)
          have tz13 := tf_98_13 Is8
          refine h_zne (tg := 20) (pc' := 7) rfl rfl rfl hz13 (fun c14 => ?_) (fun c14 => ?_)
          · refine h_vret rfl rfl (h_Kn ?_)
            refine h_goto (pc' := 269) rfl rfl ?_
            exact h_vret rfl rfl (kk _ Is8 Fs8 (by omega) (by omega) (by omega))
          · refine h_aload_n (pc' := 8) rfl rfl rfl ?_
            refine h_iload_n (pc' := 9) rfl rfl rfl ?_
            refine h_put (pc' := 12) rfl rfl rfl rfl rfl rfl ci_1 rfl ?_
            have Is15 : h_I (h_up s8 98 13 1) := (if_98_13 Is8 (by omega))
            have Fs15 := (Fs8.up (q := 98) (a := 13) (v := 1) rfl)
            have es15_0 : h_up s8 98 13 1 98 15 = s8 98 15 := rfl
            have es15_1 : h_up s8 98 13 1 98 16 = s8 98 16 := rfl
            have es15_2 : h_up s8 98 13 1 98 17 = s8 98 17 := rfl
            have es15_3 : h_up s8 98 13 1 98 18 = s8 98 18 := rfl
            have es15_4 : h_up s8 98 13 1 98 13 = 1 := rfl
            generalize h_up s8 98 13 1 = s15 at Is15 Fs15 es15_0 es15_1 es15_2 es15_3 es15_4 ⊢
            refine h_aload_n (pc' := 13) rfl rfl rfl ?_
            refine h_aload_n (pc' := 14) rfl rfl rfl ?_
            refine h_getI (pc' := 17) (v := s15 98 16) rfl rfl rfl rfl rfl rfl (fun z16 hz16 => ?_)
            have tz16 := tf_98_16 Is15
            refine h_put (pc' := 20) rfl rfl rfl rfl rfl rfl hz16 rfl ?_
            have Is17 : h_I (h_up s15 98 14 (s15 98 16)) := (if_98_14 Is15 (h_rgv hz16))
            have Fs17 := (Fs15.up (q := 98) (a := 14) (v := (s15 98 16)) rfl)
            have es17_0 : h_up s15 98 14 (s15 98 16) 98 15 = s15 98 15 := rfl
            have es17_1 : h_up s15 98 14 (s15 98 16) 98 16 = s15 98 16 := rfl
            have es17_2 : h_up s15 98 14 (s15 98 16) 98 17 = s15 98 17 := rfl
            have es17_3 : h_up s15 98 14 (s15 98 16) 98 18 = s15 98 18 := rfl
            have es17_4 : h_up s15 98 14 (s15 98 16) 98 13 = s15 98 13 := rfl
            generalize h_up s15 98 14 (s15 98 16) = s17 at Is17 Fs17 es17_0 es17_1 es17_2 es17_3 es17_4 ⊢
            refine h_vret rfl rfl (h_Kn ?_)
            refine h_goto (pc' := 269) rfl rfl ?_
            exact h_vret rfl rfl (kk _ Is17 Fs17 (by omega) (by omega) (by omega))
      · refine h_aload_n (pc' := 9) rfl rfl rfl ?_
        refine h_getR (pc' := 12) rfl rfl rfl rfl rfl ?_
        refine h_iload_n (pc' := 13) rfl rfl rfl ?_
        refine h_iald (pc' := 14) (v := σ 102 (s0 98 15)) rfl rfl rfl hz1 (by omega) (by omega) (F0_ 102 _ rfl) (fun z18 hz18 => ?_)
        have tz18 := ty_102 hI (s0 98 15)
        refine h_goto (pc' := 19) rfl rfl ?_
        refine h_iret rfl rfl (h_Kv ?_)
        refine h_i2l (pc' := 149) rfl rfl hz18 (fun z19 hz19 => ?_)
        refine h_ldc2 (pc' := 152) (x := (Int64.ofInt 48)) rfl rfl rfl ?_
        refine h_ldc2 (pc' := 155) (x := (Int64.ofInt 57)) rfl rfl rfl ?_
        refine h_calls (pc' := 158) (M := [(0, .long z19), (2, .long (Int64.ofInt 48)), (4, .long (Int64.ofInt 57))]) rfl rfl rfl rfl rfl rfl ?_
        refine h_lload_n (pc' := 1) rfl rfl rfl ?_
        refine h_lload_n (pc' := 2) rfl rfl rfl ?_
        refine h_lcmp (pc' := 3) rfl rfl hz19 cl_48 (fun z20 hz20 => ?_)
        refine h_zlt (tg := 17) (pc' := 6) rfl rfl rfl rfl (fun c21 => ?_) (fun c21 => ?_)
        · refine h_iconst (pc' := 18) (x := (Int32.ofInt 0)) rfl rfl rfl ?_
          refine h_zret rfl rfl ci_0 (by omega) (h_Kv ?_)
          refine h_zeq (tg := 217) (pc' := 161) rfl rfl rfl ci_0 (fun c22 => ?_) (fun c22 => absurd c22 (by omega))
          refine h_aload_n (pc' := 218) rfl rfl rfl ?_
          refine h_iconst (pc' := 219) (x := (Int32.ofInt 2)) rfl rfl rfl ?_
          refine h_put (pc' := 222) rfl rfl rfl rfl rfl rfl ci_2 rfl ?_
          have Is23 : h_I (h_up s0 98 17 2) := (if_98_17 I0 (by omega))
          have Fs23 := (F0_.up (q := 98) (a := 17) (v := 2) rfl)
          have es23_0 : h_up s0 98 17 2 98 15 = s0 98 15 := rfl
          have es23_1 : h_up s0 98 17 2 98 16 = s0 98 16 := rfl
          have es23_2 : h_up s0 98 17 2 98 17 = 2 := rfl
          have es23_3 : h_up s0 98 17 2 98 18 = s0 98 18 := rfl
          have es23_4 : h_up s0 98 17 2 98 13 = s0 98 13 := rfl
          generalize h_up s0 98 17 2 = s23 at Is23 Fs23 es23_0 es23_1 es23_2 es23_3 es23_4 ⊢
          refine h_aload_n (pc' := 223) rfl rfl rfl ?_
          refine h_getI (pc' := 226) (v := s23 98 15) rfl rfl rfl rfl rfl rfl (fun z24 hz24 => ?_)
          have tz24 := tf_98_15 Is23
          refine h_aload_n (pc' := 227) rfl rfl rfl ?_
          refine h_getI (pc' := 230) (v := s23 98 16) rfl rfl rfl rfl rfl rfl (fun z25 hz25 => ?_)
          have tz25 := tf_98_16 Is23
          refine h_isub (pc' := 231) rfl rfl hz24 hz25 rfl (by omega) (by omega) (fun z26 hz26 => ?_)
          refine h_iconst (pc' := 232) (x := (Int32.ofInt 2)) rfl rfl rfl ?_
          refine h_cle (tg := 269) (pc' := 235) rfl rfl rfl hz26 ci_2 (fun c27 => ?_) (fun c27 => ?_)
          · exact h_vret rfl rfl (kk _ Is23 Fs23 (by omega) (by omega) (by omega))
          · refine h_aload_n (pc' := 236) rfl rfl rfl ?_
            refine h_iconst (pc' := 237) (x := (Int32.ofInt 1)) rfl rfl rfl ?_
            refine h_call (sp := false) (pc' := 240) (M := [(0, .ref 98), (1, .int (Int32.ofInt 1))]) rfl rfl rfl rfl rfl rfl rfl rfl ?_
            refine h_aload_n (pc' := 1) rfl rfl rfl ?_
            refine h_getI (pc' := 4) (v := s23 98 13) rfl rfl rfl rfl rfl rfl (fun z28 hz28 => ?_)
            have tz28 := tf_98_13 Is23
            refine h_zne (tg := 20) (pc' := 7) rfl rfl rfl hz28 (fun c29 => ?_) (fun c29 => ?_)
            · refine h_vret rfl rfl (h_Kn ?_)
              refine h_goto (pc' := 269) rfl rfl ?_
              exact h_vret rfl rfl (kk _ Is23 Fs23 (by omega) (by omega) (by omega))
            · refine h_aload_n (pc' := 8) rfl rfl rfl ?_
              refine h_iload_n (pc' := 9) rfl rfl rfl ?_
              refine h_put (pc' := 12) rfl rfl rfl rfl rfl rfl ci_1 rfl ?_
              have Is30 : h_I (h_up s23 98 13 1) := (if_98_13 Is23 (by omega))
              have Fs30 := (Fs23.up (q := 98) (a := 13) (v := 1) rfl)
              have es30_0 : h_up s23 98 13 1 98 15 = s23 98 15 := rfl
              have es30_1 : h_up s23 98 13 1 98 16 = s23 98 16 := rfl
              have es30_2 : h_up s23 98 13 1 98 17 = s23 98 17 := rfl
              have es30_3 : h_up s23 98 13 1 98 18 = s23 98 18 := rfl
              have es30_4 : h_up s23 98 13 1 98 13 = 1 := rfl
              generalize h_up s23 98 13 1 = s30 at Is30 Fs30 es30_0 es30_1 es30_2 es30_3 es30_4 ⊢
              refine h_aload_n (pc' := 13) rfl rfl rfl ?_
              refine h_aload_n (pc' := 14) rfl rfl rfl ?_
              refine h_getI (pc' := 17) (v := s30 98 16) rfl rfl rfl rfl rfl rfl (fun z31 hz31 => ?_)
              have tz31 := tf_98_16 Is30
              refine h_put (pc' := 20) rfl rfl rfl rfl rfl rfl hz31 rfl ?_
              have Is32 : h_I (h_up s30 98 14 (s30 98 16)) := (if_98_14 Is30 (h_rgv hz31))
              have Fs32 := (Fs30.up (q := 98) (a := 14) (v := (s30 98 16)) rfl)
              have es32_0 : h_up s30 98 14 (s30 98 16) 98 15 = s30 98 15 := rfl
              have es32_1 : h_up s30 98 14 (s30 98 16) 98 16 = s30 98 16 := rfl
              have es32_2 : h_up s30 98 14 (s30 98 16) 98 17 = s30 98 17 := rfl
              have es32_3 : h_up s30 98 14 (s30 98 16) 98 18 = s30 98 18 := rfl
              have es32_4 : h_up s30 98 14 (s30 98 16) 98 13 = s30 98 13 := rfl
              generalize h_up s30 98 14 (s30 98 16) = s32 at Is32 Fs32 es32_0 es32_1 es32_2 es32_3 es32_4 ⊢
              refine h_vret rfl rfl (h_Kn ?_)
              refine h_goto (pc' := 269) rfl rfl ?_
              exact h_vret rfl rfl (kk _ Is32 Fs32 (by omega) (by omega) (by omega))
        · refine h_lload_n (pc' := 7) rfl rfl rfl ?_
          refine h_lload (pc' := 9) rfl rfl rfl ?_
          refine h_lcmp (pc' := 10) rfl rfl hz19 cl_57 (fun z33 hz33 => ?_)
          refine h_zgt (tg := 17) (pc' := 13) rfl rfl rfl rfl (fun c34 => ?_) (fun c34 => ?_)
          · refine h_iconst (pc' := 18) (x := (Int32.ofInt 0)) rfl rfl rfl ?_
            refine h_zret rfl rfl ci_0 (by omega) (h_Kv ?_)
            refine h_zeq (tg := 217) (pc' := 161) rfl rfl rfl ci_0 (fun c35 => ?_) (fun c35 => absurd c35 (by omega))
            refine h_aload_n (pc' := 218) rfl rfl rfl ?_
            refine h_iconst (pc' := 219) (x := (Int32.ofInt 2)) rfl rfl rfl ?_
            refine h_put (pc' := 222) rfl rfl rfl rfl rfl rfl ci_2 rfl ?_
            have Is36 : h_I (h_up s0 98 17 2) := (if_98_17 I0 (by omega))
            have Fs36 := (F0_.up (q := 98) (a := 17) (v := 2) rfl)
            have es36_0 : h_up s0 98 17 2 98 15 = s0 98 15 := rfl
            have es36_1 : h_up s0 98 17 2 98 16 = s0 98 16 := rfl
            have es36_2 : h_up s0 98 17 2 98 17 = 2 := rfl
            have es36_3 : h_up s0 98 17 2 98 18 = s0 98 18 := rfl
            have es36_4 : h_up s0 98 17 2 98 13 = s0 98 13 := rfl
            generalize h_up s0 98 17 2 = s36 at Is36 Fs36 es36_0 es36_1 es36_2 es36_3 es36_4 ⊢
            refine h_aload_n (pc' := 223) rfl rfl rfl ?_
            refine h_getI (pc' := 226) (v := s36 98 15) rfl rfl rfl rfl rfl rfl (fun z37 hz37 => ?_)
            have tz37 := tf_98_15 Is36
            refine h_aload_n (pc' := 227) rfl rfl rfl ?_
            refine h_getI (pc' := 230) (v := s36 98 16) rfl rfl rfl rfl rfl rfl (fun z38 hz38 => ?_)
            have tz38 := tf_98_16 Is36
            refine h_isub (pc' := 231) rfl rfl hz37 hz38 rfl (by omega) (by omega) (fun z39 hz39 => ?_)
            refine h_iconst (pc' := 232) (x := (Int32.ofInt 2)) rfl rfl rfl ?_
            refine h_cle (tg := 269) (pc' := 235) rfl rfl rfl hz39 ci_2 (fun c40 => ?_) (fun c40 => ?_)
            · exact h_vret rfl rfl (kk _ Is36 Fs36 (by omega) (by omega) (by omega))
            · refine h_aload_n (pc' := 236) rfl rfl rfl ?_
              refine h_iconst (pc' := 237) (x := (Int32.ofInt 1)) rfl rfl rfl ?_
              refine h_call (sp := false) (pc' := 240) (M := [(0, .ref 98), (1, .int (Int32.ofInt 1))]) rfl rfl rfl rfl rfl rfl rfl rfl ?_
              refine h_aload_n (pc' := 1) rfl rfl rfl ?_
              refine h_getI (pc' := 4) (v := s36 98 13) rfl rfl rfl rfl rfl rfl (fun z41 hz41 => ?_)
              have tz41 := tf_98_13 Is36
              refine h_zne (tg := 20) (pc' := 7) rfl rfl rfl hz41 (fun c42 => ?_) (fun c42 => ?_)
              · refine h_vret rfl rfl (h_Kn ?_)
                refine h_goto (pc' := 269) rfl rfl ?_
                exact h_vret rfl rfl (kk _ Is36 Fs36 (by omega) (by omega) (by omega))
              · refine h_aload_n (pc' := 8) rfl rfl rfl ?_
                refine h_iload_n (pc' := 9) rfl rfl rfl ?_
                refine h_put (pc' := 12) rfl rfl rfl rfl rfl rfl ci_1 rfl ?_
                have Is43 : h_I (h_up s36 98 13 1) := (if_98_13 Is36 (by omega))
                have Fs43 := (Fs36.up (q := 98) (a := 13) (v := 1) rfl)
                have es43_0 : h_up s36 98 13 1 98 15 = s36 98 15 := rfl
                have es43_1 : h_up s36 98 13 1 98 16 = s36 98 16 := rfl
                have es43_2 : h_up s36 98 13 1 98 17 = s36 98 17 := rfl
                have es43_3 : h_up s36 98 13 1 98 18 = s36 98 18 := rfl
                have es43_4 : h_up s36 98 13 1 98 13 = 1 := rfl
                generalize h_up s36 98 13 1 = s43 at Is43 Fs43 es43_0 es43_1 es43_2 es43_3 es43_4 ⊢
                refine h_aload_n (pc' := 13) rfl rfl rfl ?_
                refine h_aload_n (pc' := 14) rfl rfl rfl ?_
                refine h_getI (pc' := 17) (v := s43 98 16) rfl rfl rfl rfl rfl rfl (fun z44 hz44 => ?_)
                have tz44 := tf_98_16 Is43
                refine h_put (pc' := 20) rfl rfl rfl rfl rfl rfl hz44 rfl ?_
                have Is45 : h_I (h_up s43 98 14 (s43 98 16)) := (if_98_14 Is43 (h_rgv hz44))
                have Fs45 := (Fs43.up (q := 98) (a := 14) (v := (s43 98 16)) rfl)
                have es45_0 : h_up s43 98 14 (s43 98 16) 98 15 = s43 98 15 := rfl
                have es45_1 : h_up s43 98 14 (s43 98 16) 98 16 = s43 98 16 := rfl
                have es45_2 : h_up s43 98 14 (s43 98 16) 98 17 = s43 98 17 := rfl
                have es45_3 : h_up s43 98 14 (s43 98 16) 98 18 = s43 98 18 := rfl
                have es45_4 : h_up s43 98 14 (s43 98 16) 98 13 = s43 98 13 := rfl
                generalize h_up s43 98 14 (s43 98 16) = s45 at Is45 Fs45 es45_0 es45_1 es45_2 es45_3 es45_4 ⊢
                refine h_vret rfl rfl (h_Kn ?_)
                refine h_goto (pc' := 269) rfl rfl ?_
                exact h_vret rfl rfl (kk _ Is45 Fs45 (by omega) (by omega) (by omega))
          · refine h_iconst (pc' := 14) (x := (Int32.ofInt 1)) rfl rfl rfl ?_
            refine h_goto (pc' := 18) rfl rfl ?_
            refine h_zret rfl rfl ci_1 (by omega) (h_Kv ?_)
            refine h_zeq (tg := 217) (pc' := 161) rfl rfl rfl ci_1 (fun c46 => absurd c46 (by omega)) (fun c46 => ?_)
            refine h_aload_n (pc' := 162) rfl rfl rfl ?_
            refine h_aload_n (pc' := 163) rfl rfl rfl ?_
            refine h_getI (pc' := 166) (v := s0 98 15) rfl rfl rfl rfl rfl rfl (fun z47 hz47 => ?_)
            have tz47 := tf_98_15 I0
            refine h_aload_n (pc' := 167) rfl rfl rfl ?_
            refine h_getI (pc' := 170) (v := s0 98 16) rfl rfl rfl rfl rfl rfl (fun z48 hz48 => ?_)
            have tz48 := tf_98_16 I0
            refine h_isub (pc' := 171) rfl rfl hz47 hz48 rfl (by omega) (by omega) (fun z49 hz49 => ?_)
            refine h_iconst (pc' := 172) (x := (Int32.ofInt 2)) rfl rfl rfl ?_
            refine h_cge (tg := 197) (pc' := 175) rfl rfl rfl hz49 ci_2 (fun c50 => ?_) (fun c50 => ?_)
            · refine h_aload_n (pc' := 198) rfl rfl rfl ?_
              refine h_getI (pc' := 201) (v := s0 98 18) rfl rfl rfl rfl rfl rfl (fun z51 hz51 => ?_)
              have tz51 := tf_98_18 I0
              refine h_put (pc' := 204) rfl rfl rfl rfl rfl rfl hz51 rfl ?_
              have Is52 : h_I (h_up s0 98 18 (s0 98 18)) := (if_98_18 I0 (by omega))
              have Fs52 := (F0_.up (q := 98) (a := 18) (v := (s0 98 18)) rfl)
              have es52_0 : h_up s0 98 18 (s0 98 18) 98 15 = s0 98 15 := rfl
              have es52_1 : h_up s0 98 18 (s0 98 18) 98 16 = s0 98 16 := rfl
              have es52_2 : h_up s0 98 18 (s0 98 18) 98 17 = s0 98 17 := rfl
              have es52_3 : h_up s0 98 18 (s0 98 18) 98 18 = (s0 98 18) := rfl
              have es52_4 : h_up s0 98 18 (s0 98 18) 98 13 = s0 98 13 := rfl
              generalize h_up s0 98 18 (s0 98 18) = s52 at Is52 Fs52 es52_0 es52_1 es52_2 es52_3 es52_4 ⊢
              refine h_aload_n (pc' := 205) rfl rfl rfl ?_
              refine h_dup (pc' := 206) rfl rfl rfl ?_
              refine h_getI (pc' := 209) (v := s52 98 15) rfl rfl rfl rfl rfl rfl (fun z53 hz53 => ?_)
              have tz53 := tf_98_15 Is52
              refine h_iconst (pc' := 210) (x := (Int32.ofInt 1)) rfl rfl rfl ?_
              refine h_iadd (pc' := 211) rfl rfl hz53 ci_1 rfl (by omega) (by omega) (fun z54 hz54 => ?_)
              refine h_put (pc' := 214) rfl rfl rfl rfl rfl rfl hz54 rfl ?_
              have Is55 : h_I (h_up s52 98 15 ((s52 98 15) + 1)) := (if_98_15 Is52 (by omega))
              have Fs55 := (Fs52.up (q := 98) (a := 15) (v := ((s52 98 15) + 1)) rfl)
              have es55_0 : h_up s52 98 15 ((s52 98 15) + 1) 98 15 = ((s52 98 15) + 1) := rfl
              have es55_1 : h_up s52 98 15 ((s52 98 15) + 1) 98 16 = s52 98 16 := rfl
              have es55_2 : h_up s52 98 15 ((s52 98 15) + 1) 98 17 = s52 98 17 := rfl
              have es55_3 : h_up s52 98 15 ((s52 98 15) + 1) 98 18 = s52 98 18 := rfl
              have es55_4 : h_up s52 98 15 ((s52 98 15) + 1) 98 13 = s52 98 13 := rfl
              generalize h_up s52 98 15 ((s52 98 15) + 1) = s55 at Is55 Fs55 es55_0 es55_1 es55_2 es55_3 es55_4 ⊢
              refine h_goto (pc' := 140) rfl rfl ?_
              exact h_wk [(0, .ref 98), (1, .int y1)] ⟨rfl, rfl, trivial⟩ (ih.2.2 _ Is55 Fs55 y1 _ hy1 (by omega) (by omega) (by omega) (by omega) (by omega) (by omega) (by omega))
            · refine h_bipush (pc' := 177) (x := (Int32.ofInt 10)) rfl rfl cb_10 ?_
              refine h_aload_n (pc' := 178) rfl rfl rfl ?_
              refine h_getI (pc' := 181) (v := s0 98 18) rfl rfl rfl rfl rfl rfl (fun z56 hz56 => ?_)
              have tz56 := tf_98_18 I0
              refine h_imul (pc' := 182) rfl rfl ci_10 hz56 rfl (by omega) (by omega) (fun z57 hz57 => ?_)
              refine h_aload_n (pc' := 183) rfl rfl rfl ?_
              refine h_aload_n (pc' := 184) rfl rfl rfl ?_
              refine h_getI (pc' := 187) (v := s0 98 15) rfl rfl rfl rfl rfl rfl (fun z58 hz58 => ?_)
              have tz58 := tf_98_15 I0
              refine h_call (sp := false) (pc' := 190) (M := [(0, .ref 98), (1, .int z58)]) rfl rfl rfl rfl rfl rfl rfl rfl ?_
              refine h_iload_n (pc' := 1) rfl rfl rfl ?_
              refine h_aload_n (pc' := 2) rfl rfl rfl ?_
              refine h_getI (pc' := 5) (v := σ 98 11) rfl rfl rfl rfl rfl (F0_ 98 11 rfl) (fun z59 hz59 => ?_)
              have tz59 := tf_98_11 hI
              refine h_cge (tg := 17) (pc' := 8) rfl rfl rfl hz58 hz59 (fun c60 => ?_) (fun c60 => ?_)
              · refine h_bipush (pc' := 19) (x := (Int32.ofInt (-4))) rfl rfl cb_m4 ?_
                refine h_iret rfl rfl (h_Kv ?_)
                refine h_iadd (pc' := 191) rfl rfl hz57 ci_m4 rfl (by omega) (by omega) (fun z61 hz61 => ?_)
                refine h_bipush (pc' := 193) (x := (Int32.ofInt 48)) rfl rfl cb_48 ?_
                refine h_isub (pc' := 194) rfl rfl hz61 ci_48 rfl (by omega) (by omega) (fun z62 hz62 => ?_)
                refine h_goto (pc' := 201) rfl rfl ?_
                refine h_put (pc' := 204) rfl rfl rfl rfl rfl rfl hz62 rfl ?_
                have Is63 : h_I (h_up s0 98 18 (((10 * (s0 98 18)) + (-4)) - 48)) := (if_98_18 I0 (by omega))
                have Fs63 := (F0_.up (q := 98) (a := 18) (v := (((10 * (s0 98 18)) + (-4)) - 48)) rfl)
                have es63_0 : h_up s0 98 18 (((10 * (s0 98 18)) + (-4)) - 48) 98 15 = s0 98 15 := rfl
                have es63_1 : h_up s0 98 18 (((10 * (s0 98 18)) + (-4)) - 48) 98 16 = s0 98 16 := rfl
                have es63_2 : h_up s0 98 18 (((10 * (s0 98 18)) + (-4)) - 48) 98 17 = s0 98 17 := rfl
                have es63_3 : h_up s0 98 18 (((10 * (s0 98 18)) + (-4)) - 48) 98 18 = (((10 * (s0 98 18)) + (-4)) - 48) := rfl
                have es63_4 : h_up s0 98 18 (((10 * (s0 98 18)) + (-4)) - 48) 98 13 = s0 98 13 := rfl
                generalize h_up s0 98 18 (((10 * (s0 98 18)) + (-4)) - 48) = s63 at Is63 Fs63 es63_0 es63_1 es63_2 es63_3 es63_4 ⊢
                refine h_aload_n (pc' := 205) rfl rfl rfl ?_
                refine h_dup (pc' := 206) rfl rfl rfl ?_
                refine h_getI (pc' := 209) (v := s63 98 15) rfl rfl rfl rfl rfl rfl (fun z64 hz64 => ?_)
                have tz64 := tf_98_15 Is63
                refine h_iconst (pc' := 210) (x := (Int32.ofInt 1)) rfl rfl rfl ?_
                refine h_iadd (pc' := 211) rfl rfl hz64 ci_1 rfl (by omega) (by omega) (fun z65 hz65 => ?_)
                refine h_put (pc' := 214) rfl rfl rfl rfl rfl rfl hz65 rfl ?_
                have Is66 : h_I (h_up s63 98 15 ((s63 98 15) + 1)) := (if_98_15 Is63 (by omega))
                have Fs66 := (Fs63.up (q := 98) (a := 15) (v := ((s63 98 15) + 1)) rfl)
                have es66_0 : h_up s63 98 15 ((s63 98 15) + 1) 98 15 = ((s63 98 15) + 1) := rfl
                have es66_1 : h_up s63 98 15 ((s63 98 15) + 1) 98 16 = s63 98 16 := rfl
                have es66_2 : h_up s63 98 15 ((s63 98 15) + 1) 98 17 = s63 98 17 := rfl
                have es66_3 : h_up s63 98 15 ((s63 98 15) + 1) 98 18 = s63 98 18 := rfl
                have es66_4 : h_up s63 98 15 ((s63 98 15) + 1) 98 13 = s63 98 13 := rfl
                generalize h_up s63 98 15 ((s63 98 15) + 1) = s66 at Is66 Fs66 es66_0 es66_1 es66_2 es66_3 es66_4 ⊢
                refine h_goto (pc' := 140) rfl rfl ?_
                exact h_wk [(0, .ref 98), (1, .int y1)] ⟨rfl, rfl, trivial⟩ (ih.2.2 _ Is66 Fs66 y1 _ hy1 (by omega) (by omega) (by omega) (by omega) (by omega) (by omega) (by omega))
              · refine h_aload_n (pc' := 9) rfl rfl rfl ?_
                refine h_getR (pc' := 12) rfl rfl rfl rfl rfl ?_
                refine h_iload_n (pc' := 13) rfl rfl rfl ?_
                refine h_iald (pc' := 14) (v := σ 102 (s0 98 15)) rfl rfl rfl hz58 (by omega) (by omega) (F0_ 102 _ rfl) (fun z67 hz67 => ?_)
                have tz67 := ty_102 hI (s0 98 15)
                refine h_goto (pc' := 19) rfl rfl ?_
                refine h_iret rfl rfl (h_Kv ?_)
                refine h_iadd (pc' := 191) rfl rfl hz57 hz67 rfl (by omega) (by omega) (fun z68 hz68 => ?_)
                refine h_bipush (pc' := 193) (x := (Int32.ofInt 48)) rfl rfl cb_48 ?_
                refine h_isub (pc' := 194) rfl rfl hz68 ci_48 rfl (by omega) (by omega) (fun z69 hz69 => ?_)
                refine h_goto (pc' := 201) rfl rfl ?_
                refine h_put (pc' := 204) rfl rfl rfl rfl rfl rfl hz69 rfl ?_
                have Is70 : h_I (h_up s0 98 18 (((10 * (s0 98 18)) + (σ 102 (s0 98 15))) - 48)) := (if_98_18 I0 (by omega))
                have Fs70 := (F0_.up (q := 98) (a := 18) (v := (((10 * (s0 98 18)) + (σ 102 (s0 98 15))) - 48)) rfl)
                have es70_0 : h_up s0 98 18 (((10 * (s0 98 18)) + (σ 102 (s0 98 15))) - 48) 98 15 = s0 98 15 := rfl
                have es70_1 : h_up s0 98 18 (((10 * (s0 98 18)) + (σ 102 (s0 98 15))) - 48) 98 16 = s0 98 16 := rfl
                have es70_2 : h_up s0 98 18 (((10 * (s0 98 18)) + (σ 102 (s0 98 15))) - 48) 98 17 = s0 98 17 := rfl
                have es70_3 : h_up s0 98 18 (((10 * (s0 98 18)) + (σ 102 (s0 98 15))) - 48) 98 18 = (((10 * (s0 98 18)) + (σ 102 (s0 98 15))) - 48) := rfl
                have es70_4 : h_up s0 98 18 (((10 * (s0 98 18)) + (σ 102 (s0 98 15))) - 48) 98 13 = s0 98 13 := rfl
                generalize h_up s0 98 18 (((10 * (s0 98 18)) + (σ 102 (s0 98 15))) - 48) = s70 at Is70 Fs70 es70_0 es70_1 es70_2 es70_3 es70_4 ⊢
                refine h_aload_n (pc' := 205) rfl rfl rfl ?_
                refine h_dup (pc' := 206) rfl rfl rfl ?_
                refine h_getI (pc' := 209) (v := s70 98 15) rfl rfl rfl rfl rfl rfl (fun z71 hz71 => ?_)
                have tz71 := tf_98_15 Is70
                refine h_iconst (pc' := 210) (x := (Int32.ofInt 1)) rfl rfl rfl ?_
                refine h_iadd (pc' := 211) rfl rfl hz71 ci_1 rfl (by omega) (by omega) (fun z72 hz72 => ?_)
                refine h_put (pc' := 214) rfl rfl rfl rfl rfl rfl hz72 rfl ?_
                have Is73 : h_I (h_up s70 98 15 ((s70 98 15) + 1)) := (if_98_15 Is70 (by omega))
                have Fs73 := (Fs70.up (q := 98) (a := 15) (v := ((s70 98 15) + 1)) rfl)
                have es73_0 : h_up s70 98 15 ((s70 98 15) + 1) 98 15 = ((s70 98 15) + 1) := rfl
                have es73_1 : h_up s70 98 15 ((s70 98 15) + 1) 98 16 = s70 98 16 := rfl
                have es73_2 : h_up s70 98 15 ((s70 98 15) + 1) 98 17 = s70 98 17 := rfl
                have es73_3 : h_up s70 98 15 ((s70 98 15) + 1) 98 18 = s70 98 18 := rfl
                have es73_4 : h_up s70 98 15 ((s70 98 15) + 1) 98 13 = s70 98 13 := rfl
                generalize h_up s70 98 15 ((s70 98 15) + 1) = s73 at Is73 Fs73 es73_0 es73_1 es73_2 es73_3 es73_4 ⊢
                refine h_goto (pc' := 140) rfl rfl ?_
                exact h_wk [(0, .ref 98), (1, .int y1)] ⟨rfl, rfl, trivial⟩ (ih.2.2 _ Is73 Fs73 y1 _ hy1 (by omega) (by omega) (by omega) (by omega) (by omega) (by omega) (by omega))
theorem v_step {ns : Nat} (σ : h_S) (hI : h_I σ) {Q : Option Value → h_S → Prop} (kk : ∀ (τ : h_S), h_I τ → h_F k_lx τ σ → (σ 98 15 ≤ τ 98 15) → (¬ σ 98 13 = 0 → τ 98 13 = σ 98 13) → (σ 98 13 = 0 → (τ 98 17 = 0 ∨ σ 98 15 < τ 98 15)) → Q none τ) : h_T g_P (g_Y ns) 148 0 [(0, .ref 98)] [] σ Q := by
  have F00 : h_F k_lx σ σ := h_F.rf
  refine h_aload_n (pc' := 1) rfl rfl rfl ?_
  refine h_getI (pc' := 4) (v := σ 98 13) rfl rfl rfl rfl rfl rfl (fun z1 hz1 => ?_)
  have tz1 := tf_98_13 hI
  refine h_zle (tg := 8) (pc' := 7) rfl rfl rfl hz1 (fun c2 => ?_) (fun c2 => ?_)
  · exact h_wk [(0, .ref 98)] ⟨rfl, trivial⟩ ((v_step_l ns σ hI  kk 1000000000000).1 _ hI F00  (by omega) (by omega) (by omega) (by omega))
  · exact h_vret rfl rfl (kk _ hI F00 (by omega) (by omega) (by omega))
theorem v_number {ns : Nat} (σ : h_S) (hI : h_I σ) (x1 : Int32) (a1 : Int) (hx1 : x1.toInt = a1) {Q : Option Value → h_S → Prop} (kk : ∀ (r : Int32) (b : Int) (hb : r.toInt = b) (τ : h_S), h_I τ → h_F k_lx τ σ → (0 ≤ b ∧ b ≤ 99) → (σ 98 15 ≤ τ 98 15) → (¬ σ 98 13 = 0 → ¬ τ 98 13 = 0) → (b = 0 ∨ b ≤ a1) → Q (some (.int r)) τ) : h_T g_P (g_Y ns) 149 0 [(0, .ref 98), (1, .int (Int32.ofInt 0)), (2, .int x1)] [] σ Q := by
  have F00 : h_F k_lx σ σ := h_F.rf
  refine h_aload_n (pc' := 1) rfl rfl rfl ?_
  refine h_getI (pc' := 4) (v := σ 98 13) rfl rfl rfl rfl rfl rfl (fun z1 hz1 => ?_)
  have tz1 := tf_98_13 hI
  refine h_zne (tg := 20) (pc' := 7) rfl rfl rfl hz1 (fun c2 => ?_) (fun c2 => ?_)
  · refine h_aload_n (pc' := 21) rfl rfl rfl ?_
    refine h_getI (pc' := 24) (v := σ 98 13) rfl rfl rfl rfl rfl rfl (fun z3 hz3 => ?_)
    have tz3 := tf_98_13 hI
    refine h_zne (tg := 47) (pc' := 27) rfl rfl rfl hz3 (fun c4 => ?_) (fun c4 => absurd c4 (by omega))
    refine h_aload_n (pc' := 48) rfl rfl rfl ?_
    refine h_getI (pc' := 51) (v := σ 98 13) rfl rfl rfl rfl rfl rfl (fun z5 hz5 => ?_)
    have tz5 := tf_98_13 hI
    refine h_zne (tg := 61) (pc' := 54) rfl rfl rfl hz5 (fun c6 => ?_) (fun c6 => absurd c6 (by omega))
    refine h_iload_n (pc' := 62) rfl rfl rfl ?_
    refine h_istore_n (pc' := 63) (M := [(3, .int (Int32.ofInt 0)), (0, .ref 98), (1, .int (Int32.ofInt 0)), (2, .int x1)]) rfl rfl rfl rfl ?_
    refine h_aload_n (pc' := 64) rfl rfl rfl ?_
    refine h_call (sp := false) (pc' := 67) (M := [(0, .ref 98)]) rfl rfl rfl rfl rfl rfl rfl rfl ?_
    refine v_step _ hI  (fun s8 Is8 Gs8 ps8_0 ps8_1 ps8_2 => h_Kn ?_)
    have Fs8 := (Gs8).tr F00
    refine h_iload_n (pc' := 68) rfl rfl rfl ?_
    exact h_iret rfl rfl (kk _ _ ci_0 _ Is8 Fs8 (by omega) (by omega) (by omega) (by omega))
  · refine h_aload_n (pc' := 8) rfl rfl rfl ?_
    refine h_getI (pc' := 11) (v := σ 98 17) rfl rfl rfl rfl rfl rfl (fun z9 hz9 => ?_)
    have tz9 := tf_98_17 hI
    refine h_iconst (pc' := 12) (x := (Int32.ofInt 2)) rfl rfl rfl ?_
    refine h_ceq (tg := 20) (pc' := 15) rfl rfl rfl hz9 ci_2 (fun c10 => ?_) (fun c10 => ?_)
    · refine h_aload_n (pc' := 21) rfl rfl rfl ?_
      refine h_getI (pc' := 24) (v := σ 98 13) rfl rfl rfl rfl rfl rfl (fun z11 hz11 => ?_)
      have tz11 := tf_98_13 hI
      refine h_zne (tg := 47) (pc' := 27) rfl rfl rfl hz11 (fun c12 => absurd c12 (by omega)) (fun c12 => ?_)
      refine h_aload_n (pc' := 28) rfl rfl rfl ?_
      refine h_getI (pc' := 31) (v := σ 98 18) rfl rfl rfl rfl rfl rfl (fun z13 hz13 => ?_)
      have tz13 := tf_98_18 hI
      refine h_i2l (pc' := 32) rfl rfl hz13 (fun z14 hz14 => ?_)
      refine h_iload_n (pc' := 33) rfl rfl rfl ?_
      refine h_i2l (pc' := 34) rfl rfl ci_0 (fun z15 hz15 => ?_)
      refine h_iload_n (pc' := 35) rfl rfl rfl ?_
      refine h_i2l (pc' := 36) rfl rfl hx1 (fun z16 hz16 => ?_)
      refine h_calls (pc' := 39) (M := [(0, .long z14), (2, .long z15), (4, .long z16)]) rfl rfl rfl rfl rfl rfl ?_
      refine h_lload_n (pc' := 1) rfl rfl rfl ?_
      refine h_lload_n (pc' := 2) rfl rfl rfl ?_
      refine h_lcmp (pc' := 3) rfl rfl hz14 hz15 (fun z17 hz17 => ?_)
      refine h_zlt (tg := 17) (pc' := 6) rfl rfl rfl rfl (fun c18 => absurd c18 (by omega)) (fun c18 => ?_)
      refine h_lload_n (pc' := 7) rfl rfl rfl ?_
      refine h_lload (pc' := 9) rfl rfl rfl ?_
      refine h_lcmp (pc' := 10) rfl rfl hz14 hz16 (fun z19 hz19 => ?_)
      refine h_zgt (tg := 17) (pc' := 13) rfl rfl rfl rfl (fun c20 => ?_) (fun c20 => ?_)
      · refine h_iconst (pc' := 18) (x := (Int32.ofInt 0)) rfl rfl rfl ?_
        refine h_zret rfl rfl ci_0 (by omega) (h_Kv ?_)
        refine h_zne (tg := 47) (pc' := 42) rfl rfl rfl ci_0 (fun c21 => absurd c21 (by omega)) (fun c21 => ?_)
        refine h_aload_n (pc' := 43) rfl rfl rfl ?_
        refine h_iconst (pc' := 44) (x := (Int32.ofInt 3)) rfl rfl rfl ?_
        refine h_call (sp := false) (pc' := 47) (M := [(0, .ref 98), (1, .int (Int32.ofInt 3))]) rfl rfl rfl rfl rfl rfl rfl rfl ?_
        refine h_aload_n (pc' := 1) rfl rfl rfl ?_
        refine h_getI (pc' := 4) (v := σ 98 13) rfl rfl rfl rfl rfl rfl (fun z22 hz22 => ?_)
        have tz22 := tf_98_13 hI
        refine h_zne (tg := 20) (pc' := 7) rfl rfl rfl hz22 (fun c23 => absurd c23 (by omega)) (fun c23 => ?_)
        refine h_aload_n (pc' := 8) rfl rfl rfl ?_
        refine h_iload_n (pc' := 9) rfl rfl rfl ?_
        refine h_put (pc' := 12) rfl rfl rfl rfl rfl rfl ci_3 rfl ?_
        have Is24 : h_I (h_up σ 98 13 3) := (if_98_13 hI (by omega))
        have Fs24 := (F00.up (q := 98) (a := 13) (v := 3) rfl)
        have es24_0 : h_up σ 98 13 3 98 15 = σ 98 15 := rfl
        have es24_1 : h_up σ 98 13 3 98 16 = σ 98 16 := rfl
        have es24_2 : h_up σ 98 13 3 98 17 = σ 98 17 := rfl
        have es24_3 : h_up σ 98 13 3 98 18 = σ 98 18 := rfl
        have es24_4 : h_up σ 98 13 3 98 13 = 3 := rfl
        generalize h_up σ 98 13 3 = s24 at Is24 Fs24 es24_0 es24_1 es24_2 es24_3 es24_4 ⊢
        refine h_aload_n (pc' := 13) rfl rfl rfl ?_
        refine h_aload_n (pc' := 14) rfl rfl rfl ?_
        refine h_getI (pc' := 17) (v := s24 98 16) rfl rfl rfl rfl rfl rfl (fun z25 hz25 => ?_)
        have tz25 := tf_98_16 Is24
        refine h_put (pc' := 20) rfl rfl rfl rfl rfl rfl hz25 rfl ?_
        have Is26 : h_I (h_up s24 98 14 (s24 98 16)) := (if_98_14 Is24 (h_rgv hz25))
        have Fs26 := (Fs24.up (q := 98) (a := 14) (v := (s24 98 16)) rfl)
        have es26_0 : h_up s24 98 14 (s24 98 16) 98 15 = s24 98 15 := rfl
        have es26_1 : h_up s24 98 14 (s24 98 16) 98 16 = s24 98 16 := rfl
        have es26_2 : h_up s24 98 14 (s24 98 16) 98 17 = s24 98 17 := rfl
        have es26_3 : h_up s24 98 14 (s24 98 16) 98 18 = s24 98 18 := rfl
        have es26_4 : h_up s24 98 14 (s24 98 16) 98 13 = s24 98 13 := rfl
        generalize h_up s24 98 14 (s24 98 16) = s26 at Is26 Fs26 es26_0 es26_1 es26_2 es26_3 es26_4 ⊢
        refine h_vret rfl rfl (h_Kn ?_)
        refine h_aload_n (pc' := 48) rfl rfl rfl ?_
        refine h_getI (pc' := 51) (v := s26 98 13) rfl rfl rfl rfl rfl rfl (fun z27 hz27 => ?_)
        have tz27 := tf_98_13 Is26
        refine h_zne (tg := 61) (pc' := 54) rfl rfl rfl hz27 (fun c28 => ?_) (fun c28 => absurd c28 (by omega))
        refine h_iload_n (pc' := 62) rfl rfl rfl ?_
        refine h_istore_n (pc' := 63) (M := [(3, .int (Int32.ofInt 0)), (0, .ref 98), (1, .int (Int32.ofInt 0)), (2, .int x1)]) rfl rfl rfl rfl ?_
        refine h_aload_n (pc' := 64) rfl rfl rfl ?_
        refine h_call (sp := false) (pc' := 67) (M := [(0, .ref 98)]) rfl rfl rfl rfl rfl rfl rfl rfl ?_
        refine v_step _ Is26  (fun s30 Is30 Gs30 ps30_0 ps30_1 ps30_2 => h_Kn ?_)
        have Fs30 := (Gs30).tr Fs26
        refine h_iload_n (pc' := 68) rfl rfl rfl ?_
        exact h_iret rfl rfl (kk _ _ ci_0 _ Is30 Fs30 (by omega) (by omega) (by omega) (by omega))
      · refine h_iconst (pc' := 14) (x := (Int32.ofInt 1)) rfl rfl rfl ?_
        refine h_goto (pc' := 18) rfl rfl ?_
        refine h_zret rfl rfl ci_1 (by omega) (h_Kv ?_)
        refine h_zne (tg := 47) (pc' := 42) rfl rfl rfl ci_1 (fun c31 => ?_) (fun c31 => absurd c31 (by omega))
        refine h_aload_n (pc' := 48) rfl rfl rfl ?_
        refine h_getI (pc' := 51) (v := σ 98 13) rfl rfl rfl rfl rfl rfl (fun z32 hz32 => ?_)
        have tz32 := tf_98_13 hI
        refine h_zne (tg := 61) (pc' := 54) rfl rfl rfl hz32 (fun c33 => absurd c33 (by omega)) (fun c33 => ?_)
        refine h_aload_n (pc' := 55) rfl rfl rfl ?_
        refine h_getI (pc' := 58) (v := σ 98 18) rfl rfl rfl rfl rfl rfl (fun z34 hz34 => ?_)
        have tz34 := tf_98_18 hI
        refine h_goto (pc' := 62) rfl rfl ?_
        refine h_istore_n (pc' := 63) (M := [(3, .int z34), (0, .ref 98), (1, .int (Int32.ofInt 0)), (2, .int x1)]) rfl rfl rfl rfl ?_
        refine h_aload_n (pc' := 64) rfl rfl rfl ?_
        refine h_call (sp := false) (pc' := 67) (M := [(0, .ref 98)]) rfl rfl rfl rfl rfl rfl rfl rfl ?_
        refine v_step _ hI  (fun s36 Is36 Gs36 ps36_0 ps36_1 ps36_2 => h_Kn ?_)
        have Fs36 := (Gs36).tr F00
        refine h_iload_n (pc' := 68) rfl rfl rfl ?_
        exact h_iret rfl rfl (kk _ _ hz34 _ Is36 Fs36 (by omega) (by omega) (by omega) (by omega))
    · refine h_aload_n (pc' := 16) rfl rfl rfl ?_
      refine h_iconst (pc' := 17) (x := (Int32.ofInt 2)) rfl rfl rfl ?_
      refine h_call (sp := false) (pc' := 20) (M := [(0, .ref 98), (1, .int (Int32.ofInt 2))]) rfl rfl rfl rfl rfl rfl rfl rfl ?_
      refine h_aload_n (pc' := 1) rfl rfl rfl ?_
      refine h_getI (pc' := 4) (v := σ 98 13) rfl rfl rfl rfl rfl rfl (fun z37 hz37 => ?_)
      have tz37 := tf_98_13 hI
      refine h_zne (tg := 20) (pc' := 7) rfl rfl rfl hz37 (fun c38 => absurd c38 (by omega)) (fun c38 => ?_)
      refine h_aload_n (pc' := 8) rfl rfl rfl ?_
      refine h_iload_n (pc' := 9) rfl rfl rfl ?_
      refine h_put (pc' := 12) rfl rfl rfl rfl rfl rfl ci_2 rfl ?_
      have Is39 : h_I (h_up σ 98 13 2) := (if_98_13 hI (by omega))
      have Fs39 := (F00.up (q := 98) (a := 13) (v := 2) rfl)
      have es39_0 : h_up σ 98 13 2 98 15 = σ 98 15 := rfl
      have es39_1 : h_up σ 98 13 2 98 16 = σ 98 16 := rfl
      have es39_2 : h_up σ 98 13 2 98 17 = σ 98 17 := rfl
      have es39_3 : h_up σ 98 13 2 98 18 = σ 98 18 := rfl
      have es39_4 : h_up σ 98 13 2 98 13 = 2 := rfl
      generalize h_up σ 98 13 2 = s39 at Is39 Fs39 es39_0 es39_1 es39_2 es39_3 es39_4 ⊢
      refine h_aload_n (pc' := 13) rfl rfl rfl ?_
      refine h_aload_n (pc' := 14) rfl rfl rfl ?_
      refine h_getI (pc' := 17) (v := s39 98 16) rfl rfl rfl rfl rfl rfl (fun z40 hz40 => ?_)
      have tz40 := tf_98_16 Is39
      refine h_put (pc' := 20) rfl rfl rfl rfl rfl rfl hz40 rfl ?_
      have Is41 : h_I (h_up s39 98 14 (s39 98 16)) := (if_98_14 Is39 (h_rgv hz40))
      have Fs41 := (Fs39.up (q := 98) (a := 14) (v := (s39 98 16)) rfl)
      have es41_0 : h_up s39 98 14 (s39 98 16) 98 15 = s39 98 15 := rfl
      have es41_1 : h_up s39 98 14 (s39 98 16) 98 16 = s39 98 16 := rfl
      have es41_2 : h_up s39 98 14 (s39 98 16) 98 17 = s39 98 17 := rfl
      have es41_3 : h_up s39 98 14 (s39 98 16) 98 18 = s39 98 18 := rfl
      have es41_4 : h_up s39 98 14 (s39 98 16) 98 13 = s39 98 13 := rfl
      generalize h_up s39 98 14 (s39 98 16) = s41 at Is41 Fs41 es41_0 es41_1 es41_2 es41_3 es41_4 ⊢
      refine h_vret rfl rfl (h_Kn ?_)
      refine h_aload_n (pc' := 21) rfl rfl rfl ?_
      refine h_getI (pc' := 24) (v := s41 98 13) rfl rfl rfl rfl rfl rfl (fun z42 hz42 => ?_)
      have tz42 := tf_98_13 Is41
      refine h_zne (tg := 47) (pc' := 27) rfl rfl rfl hz42 (fun c43 => ?_) (fun c43 => absurd c43 (by omega))
      refine h_aload_n (pc' := 48) rfl rfl rfl ?_
      refine h_getI (pc' := 51) (v := s41 98 13) rfl rfl rfl rfl rfl rfl (fun z44 hz44 => ?_)
      have tz44 := tf_98_13 Is41
      refine h_zne (tg := 61) (pc' := 54) rfl rfl rfl hz44 (fun c45 => ?_) (fun c45 => absurd c45 (by omega))
      refine h_iload_n (pc' := 62) rfl rfl rfl ?_
      refine h_istore_n (pc' := 63) (M := [(3, .int (Int32.ofInt 0)), (0, .ref 98), (1, .int (Int32.ofInt 0)), (2, .int x1)]) rfl rfl rfl rfl ?_
      refine h_aload_n (pc' := 64) rfl rfl rfl ?_
      refine h_call (sp := false) (pc' := 67) (M := [(0, .ref 98)]) rfl rfl rfl rfl rfl rfl rfl rfl ?_
      refine v_step _ Is41  (fun s47 Is47 Gs47 ps47_0 ps47_1 ps47_2 => h_Kn ?_)
      have Fs47 := (Gs47).tr Fs41
      refine h_iload_n (pc' := 68) rfl rfl rfl ?_
      exact h_iret rfl rfl (kk _ _ ci_0 _ Is47 Fs47 (by omega) (by omega) (by omega) (by omega))
theorem v_oneHere {ns : Nat} (σ : h_S) (hI : h_I σ) {Q : Option Value → h_S → Prop} (kk : ∀ (r : Int32) (b : Int) (hb : r.toInt = b) (τ : h_S), h_I τ → h_F k_lx τ σ → (0 ≤ b ∧ b ≤ 99) → (σ 98 15 ≤ τ 98 15) → (¬ σ 98 13 = 0 → ¬ τ 98 13 = 0) → (b ≤ 5) → Q (some (.int r)) τ) : h_T g_P (g_Y ns) 150 0 [(0, .ref 98)] [] σ Q := by
  have F00 : h_F k_lx σ σ := h_F.rf
  refine h_aload_n (pc' := 1) rfl rfl rfl ?_
  refine h_iconst (pc' := 2) (x := (Int32.ofInt 0)) rfl rfl rfl ?_
  refine h_iconst (pc' := 3) (x := (Int32.ofInt 5)) rfl rfl rfl ?_
  refine h_call (sp := false) (pc' := 6) (M := [(0, .ref 98), (1, .int (Int32.ofInt 0)), (2, .int (Int32.ofInt 5))]) rfl rfl rfl rfl rfl rfl rfl rfl ?_
  refine v_number _ hI  (Int32.ofInt 5) _ ci_5 (fun r1 br1 hr1 s2 Is2 Gs2 tr1 ps2_0 ps2_1 ps2_2 => h_Kv ?_)
  have Fs2 := (Gs2).tr F00
  refine h_istore_n (pc' := 7) (M := [(1, .int r1), (0, .ref 98)]) rfl rfl rfl rfl ?_
  refine h_aload_n (pc' := 8) rfl rfl rfl ?_
  refine h_iload_n (pc' := 9) rfl rfl rfl ?_
  refine h_aload_n (pc' := 10) rfl rfl rfl ?_
  refine h_getI (pc' := 13) (v := s2 98 8) rfl rfl rfl rfl rfl rfl (fun z3 hz3 => ?_)
  have tz3 := tf_98_8 Is2
  refine h_cle (tg := 20) (pc' := 16) rfl rfl rfl hr1 hz3 (fun c4 => ?_) (fun c4 => ?_)
  · refine h_aload_n (pc' := 21) rfl rfl rfl ?_
    refine h_getI (pc' := 24) (v := s2 98 8) rfl rfl rfl rfl rfl rfl (fun z5 hz5 => ?_)
    have tz5 := tf_98_8 Is2
    refine h_put (pc' := 27) rfl rfl rfl rfl rfl rfl hz5 rfl ?_
    have Is6 : h_I (h_up s2 98 8 (s2 98 8)) := (if_98_8 Is2 (by omega))
    have Fs6 := (Fs2.up (q := 98) (a := 8) (v := (s2 98 8)) rfl)
    have es6_0 : h_up s2 98 8 (s2 98 8) 98 15 = s2 98 15 := rfl
    have es6_1 : h_up s2 98 8 (s2 98 8) 98 16 = s2 98 16 := rfl
    have es6_2 : h_up s2 98 8 (s2 98 8) 98 17 = s2 98 17 := rfl
    have es6_3 : h_up s2 98 8 (s2 98 8) 98 18 = s2 98 18 := rfl
    have es6_4 : h_up s2 98 8 (s2 98 8) 98 13 = s2 98 13 := rfl
    generalize h_up s2 98 8 (s2 98 8) = s6 at Is6 Fs6 es6_0 es6_1 es6_2 es6_3 es6_4 ⊢
    refine h_iload_n (pc' := 28) rfl rfl rfl ?_
    exact h_iret rfl rfl (kk _ _ hr1 _ Is6 Fs6 (by omega) (by omega) (by omega) (by omega))
  · refine h_iload_n (pc' := 17) rfl rfl rfl ?_
    refine h_goto (pc' := 24) rfl rfl ?_
    refine h_put (pc' := 27) rfl rfl rfl rfl rfl rfl hr1 rfl ?_
    have Is7 : h_I (h_up s2 98 8 br1) := (if_98_8 Is2 (by omega))
    have Fs7 := (Fs2.up (q := 98) (a := 8) (v := br1) rfl)
    have es7_0 : h_up s2 98 8 br1 98 15 = s2 98 15 := rfl
    have es7_1 : h_up s2 98 8 br1 98 16 = s2 98 16 := rfl
    have es7_2 : h_up s2 98 8 br1 98 17 = s2 98 17 := rfl
    have es7_3 : h_up s2 98 8 br1 98 18 = s2 98 18 := rfl
    have es7_4 : h_up s2 98 8 br1 98 13 = s2 98 13 := rfl
    generalize h_up s2 98 8 br1 = s7 at Is7 Fs7 es7_0 es7_1 es7_2 es7_3 es7_4 ⊢
    refine h_iload_n (pc' := 28) rfl rfl rfl ?_
    exact h_iret rfl rfl (kk _ _ hr1 _ Is7 Fs7 (by omega) (by omega) (by omega) (by omega))
theorem v_readPair12 {ns : Nat} (σ : h_S) (hI : h_I σ) (x1 : Int32) (a1 : Int) (hx1 : x1.toInt = a1) (ra1 : 0 ≤ a1 ∧ a1 ≤ 2) (pr0 : σ 101 18 ≤ 2) {Q : Option Value → h_S → Prop} (kk : ∀ (τ : h_S), h_I τ → h_F k_nt τ σ → (σ 98 15 ≤ τ 98 15) → (¬ σ 98 13 = 0 → ¬ τ 98 13 = 0) → Q none τ) : h_T g_P (g_Y ns) 151 0 [(0, .ref 98), (1, .int (Int32.ofInt 12)), (2, .int x1)] [] σ Q := by
  have F00 : h_F k_nt σ σ := h_F.rf
  refine h_aload_n (pc' := 1) rfl rfl rfl ?_
  refine h_call (sp := false) (pc' := 4) (M := [(0, .ref 98)]) rfl rfl rfl rfl rfl rfl rfl rfl ?_
  refine v_oneHere _ hI  (fun r1 br1 hr1 s2 Is2 Gs2 tr1 ps2_0 ps2_1 ps2_2 => h_Kv ?_)
  have Fs2 := (Gs2.l1).tr F00
  have es2_5 : s2 101 18 = σ 101 18 := Gs2 101 18 rfl
  refine h_istore_n (pc' := 5) (M := [(3, .int r1), (0, .ref 98), (1, .int (Int32.ofInt 12)), (2, .int x1)]) rfl rfl rfl rfl ?_
  refine h_aload_n (pc' := 6) rfl rfl rfl ?_
  refine h_getI (pc' := 9) (v := s2 98 13) rfl rfl rfl rfl rfl rfl (fun z3 hz3 => ?_)
  have tz3 := tf_98_13 Is2
  refine h_zne (tg := 33) (pc' := 12) rfl rfl rfl hz3 (fun c4 => ?_) (fun c4 => ?_)
  · refine h_aload_n (pc' := 34) rfl rfl rfl ?_
    refine h_getR (pc' := 37) rfl rfl rfl rfl rfl ?_
    refine h_iload_n (pc' := 38) rfl rfl rfl ?_
    refine h_iconst (pc' := 39) (x := (Int32.ofInt 2)) rfl rfl rfl ?_
    refine h_iload_n (pc' := 40) rfl rfl rfl ?_
    refine h_imul (pc' := 41) rfl rfl ci_2 hx1 rfl (by omega) (by omega) (fun z5 hz5 => ?_)
    refine h_iadd (pc' := 42) rfl rfl ci_12 hz5 rfl (by omega) (by omega) (fun z6 hz6 => ?_)
    refine h_iload_n (pc' := 43) rfl rfl rfl ?_
    refine h_iast (pc' := 44) rfl rfl rfl rfl hz6 (by omega) (by omega) hr1 ?_
    have Is7 : h_I (h_up s2 101 (12 + (2 * a1)) br1) := (ip_101_2 Is2 (by omega) (by omega))
    have Fs7 := (Fs2.up (q := 101) (a := (12 + (2 * a1))) (v := br1) rfl)
    have es7_0 : h_up s2 101 (12 + (2 * a1)) br1 98 15 = s2 98 15 := rfl
    have es7_1 : h_up s2 101 (12 + (2 * a1)) br1 98 16 = s2 98 16 := rfl
    have es7_2 : h_up s2 101 (12 + (2 * a1)) br1 98 17 = s2 98 17 := rfl
    have es7_3 : h_up s2 101 (12 + (2 * a1)) br1 98 18 = s2 98 18 := rfl
    have es7_4 : h_up s2 101 (12 + (2 * a1)) br1 98 13 = s2 98 13 := rfl
    have es7_5 := h_up_at (σ := s2) (q := 101) (j := (12 + (2 * a1))) (v := br1) (i := 18)
    generalize h_up s2 101 (12 + (2 * a1)) br1 = s7 at Is7 Fs7 es7_0 es7_1 es7_2 es7_3 es7_4 es7_5 ⊢
    refine h_aload_n (pc' := 45) rfl rfl rfl ?_
    refine h_getR (pc' := 48) rfl rfl rfl rfl rfl ?_
    refine h_iload_n (pc' := 49) rfl rfl rfl ?_
    refine h_iconst (pc' := 50) (x := (Int32.ofInt 2)) rfl rfl rfl ?_
    refine h_iload_n (pc' := 51) rfl rfl rfl ?_
    refine h_imul (pc' := 52) rfl rfl ci_2 hx1 rfl (by omega) (by omega) (fun z8 hz8 => ?_)
    refine h_iadd (pc' := 53) rfl rfl ci_12 hz8 rfl (by omega) (by omega) (fun z9 hz9 => ?_)
    refine h_iconst (pc' := 54) (x := (Int32.ofInt 1)) rfl rfl rfl ?_
    refine h_iadd (pc' := 55) rfl rfl hz9 ci_1 rfl (by omega) (by omega) (fun z10 hz10 => ?_)
    refine h_aload_n (pc' := 56) rfl rfl rfl ?_
    refine h_call (sp := false) (pc' := 59) (M := [(0, .ref 98)]) rfl rfl rfl rfl rfl rfl rfl rfl ?_
    refine v_oneHere _ Is7  (fun r11 br11 hr11 s12 Is12 Gs12 tr11 ps12_0 ps12_1 ps12_2 => h_Kv ?_)
    have Fs12 := (Gs12.l1).tr Fs7
    have es12_5 : s12 101 18 = s7 101 18 := Gs12 101 18 rfl
    refine h_iast (pc' := 60) rfl rfl rfl rfl hz10 (by omega) (by omega) hr11 ?_
    have Is13 : h_I (h_up s12 101 ((12 + (2 * a1)) + 1) br11) := (ip_101_2 Is12 (by omega) (by omega))
    have Fs13 := (Fs12.up (q := 101) (a := ((12 + (2 * a1)) + 1)) (v := br11) rfl)
    have es13_0 : h_up s12 101 ((12 + (2 * a1)) + 1) br11 98 15 = s12 98 15 := rfl
    have es13_1 : h_up s12 101 ((12 + (2 * a1)) + 1) br11 98 16 = s12 98 16 := rfl
    have es13_2 : h_up s12 101 ((12 + (2 * a1)) + 1) br11 98 17 = s12 98 17 := rfl
    have es13_3 : h_up s12 101 ((12 + (2 * a1)) + 1) br11 98 18 = s12 98 18 := rfl
    have es13_4 : h_up s12 101 ((12 + (2 * a1)) + 1) br11 98 13 = s12 98 13 := rfl
    have es13_5 := h_up_at (σ := s12) (q := 101) (j := ((12 + (2 * a1)) + 1)) (v := br11) (i := 18)
    generalize h_up s12 101 ((12 + (2 * a1)) + 1) br11 = s13 at Is13 Fs13 es13_0 es13_1 es13_2 es13_3 es13_4 es13_5 ⊢
    refine h_aload_n (pc' := 61) rfl rfl rfl ?_
    refine h_getR (pc' := 64) rfl rfl rfl rfl rfl ?_
    refine h_iload_n (pc' := 65) rfl rfl rfl ?_
    refine h_bipush (pc' := 67) (x := (Int32.ofInt 6)) rfl rfl cb_6 ?_
    refine h_iadd (pc' := 68) (c := 18) rfl rfl ci_12 ci_6 rfl (by omega) (by omega) (fun z14 hz14 => ?_)
    refine h_dup2 (pc' := 69) rfl rfl rfl ?_
    refine h_iald (pc' := 70) (v := s13 101 18) rfl rfl rfl hz14 (by omega) (by omega) rfl (fun z15 hz15 => ?_)
    have tz15 := ty_101_3 Is13 18 (by omega)
    refine h_iconst (pc' := 71) (x := (Int32.ofInt 1)) rfl rfl rfl ?_
    refine h_iadd (pc' := 72) rfl rfl hz15 ci_1 rfl (by omega) (by omega) (fun z16 hz16 => ?_)
    refine h_iast (pc' := 73) rfl rfl rfl rfl hz14 (by omega) (by omega) hz16 ?_
    have Is17 : h_I (h_up s13 101 18 ((s13 101 18) + 1)) := (ip_101_3 Is13 (by omega) (by omega))
    have Fs17 := (Fs13.up (q := 101) (a := 18) (v := ((s13 101 18) + 1)) rfl)
    have es17_0 : h_up s13 101 18 ((s13 101 18) + 1) 98 15 = s13 98 15 := rfl
    have es17_1 : h_up s13 101 18 ((s13 101 18) + 1) 98 16 = s13 98 16 := rfl
    have es17_2 : h_up s13 101 18 ((s13 101 18) + 1) 98 17 = s13 98 17 := rfl
    have es17_3 : h_up s13 101 18 ((s13 101 18) + 1) 98 18 = s13 98 18 := rfl
    have es17_4 : h_up s13 101 18 ((s13 101 18) + 1) 98 13 = s13 98 13 := rfl
    have es17_5 : h_up s13 101 18 ((s13 101 18) + 1) 101 18 = ((s13 101 18) + 1) := rfl
    generalize h_up s13 101 18 ((s13 101 18) + 1) = s17 at Is17 Fs17 es17_0 es17_1 es17_2 es17_3 es17_4 es17_5 ⊢
    exact h_vret rfl rfl (kk _ Is17 Fs17 (by omega) (by omega))
  · refine h_aload_n (pc' := 13) rfl rfl rfl ?_
    refine h_getI (pc' := 16) (v := s2 98 17) rfl rfl rfl rfl rfl rfl (fun z18 hz18 => ?_)
    have tz18 := tf_98_17 Is2
    refine h_iconst (pc' := 17) (x := (Int32.ofInt 2)) rfl rfl rfl ?_
    refine h_cne (tg := 33) (pc' := 20) rfl rfl rfl hz18 ci_2 (fun c19 => ?_) (fun c19 => ?_)
    · refine h_aload_n (pc' := 34) rfl rfl rfl ?_
      refine h_getR (pc' := 37) rfl rfl rfl rfl rfl ?_
      refine h_iload_n (pc' := 38) rfl rfl rfl ?_
      refine h_iconst (pc' := 39) (x := (Int32.ofInt 2)) rfl rfl rfl ?_
      refine h_iload_n (pc' := 40) rfl rfl rfl ?_
      refine h_imul (pc' := 41) rfl rfl ci_2 hx1 rfl (by omega) (by omega) (fun z20 hz20 => ?_)
      refine h_iadd (pc' := 42) rfl rfl ci_12 hz20 rfl (by omega) (by omega) (fun z21 hz21 => ?_)
      refine h_iload_n (pc' := 43) rfl rfl rfl ?_
      refine h_iast (pc' := 44) rfl rfl rfl rfl hz21 (by omega) (by omega) hr1 ?_
      have Is22 : h_I (h_up s2 101 (12 + (2 * a1)) br1) := (ip_101_2 Is2 (by omega) (by omega))
      have Fs22 := (Fs2.up (q := 101) (a := (12 + (2 * a1))) (v := br1) rfl)
      have es22_0 : h_up s2 101 (12 + (2 * a1)) br1 98 15 = s2 98 15 := rfl
      have es22_1 : h_up s2 101 (12 + (2 * a1)) br1 98 16 = s2 98 16 := rfl
      have es22_2 : h_up s2 101 (12 + (2 * a1)) br1 98 17 = s2 98 17 := rfl
      have es22_3 : h_up s2 101 (12 + (2 * a1)) br1 98 18 = s2 98 18 := rfl
      have es22_4 : h_up s2 101 (12 + (2 * a1)) br1 98 13 = s2 98 13 := rfl
      have es22_5 := h_up_at (σ := s2) (q := 101) (j := (12 + (2 * a1))) (v := br1) (i := 18)
      generalize h_up s2 101 (12 + (2 * a1)) br1 = s22 at Is22 Fs22 es22_0 es22_1 es22_2 es22_3 es22_4 es22_5 ⊢
      refine h_aload_n (pc' := 45) rfl rfl rfl ?_
      refine h_getR (pc' := 48) rfl rfl rfl rfl rfl ?_
      refine h_iload_n (pc' := 49) rfl rfl rfl ?_
      refine h_iconst (pc' := 50) (x := (Int32.ofInt 2)) rfl rfl rfl ?_
      refine h_iload_n (pc' := 51) rfl rfl rfl ?_
      refine h_imul (pc' := 52) rfl rfl ci_2 hx1 rfl (by omega) (by omega) (fun z23 hz23 => ?_)
      refine h_iadd (pc' := 53) rfl rfl ci_12 hz23 rfl (by omega) (by omega) (fun z24 hz24 => ?_)
      refine h_iconst (pc' := 54) (x := (Int32.ofInt 1)) rfl rfl rfl ?_
      refine h_iadd (pc' := 55) rfl rfl hz24 ci_1 rfl (by omega) (by omega) (fun z25 hz25 => ?_)
      refine h_aload_n (pc' := 56) rfl rfl rfl ?_
      refine h_call (sp := false) (pc' := 59) (M := [(0, .ref 98)]) rfl rfl rfl rfl rfl rfl rfl rfl ?_
      refine v_oneHere _ Is22  (fun r26 br26 hr26 s27 Is27 Gs27 tr26 ps27_0 ps27_1 ps27_2 => h_Kv ?_)
      have Fs27 := (Gs27.l1).tr Fs22
      have es27_5 : s27 101 18 = s22 101 18 := Gs27 101 18 rfl
      refine h_iast (pc' := 60) rfl rfl rfl rfl hz25 (by omega) (by omega) hr26 ?_
      have Is28 : h_I (h_up s27 101 ((12 + (2 * a1)) + 1) br26) := (ip_101_2 Is27 (by omega) (by omega))
      have Fs28 := (Fs27.up (q := 101) (a := ((12 + (2 * a1)) + 1)) (v := br26) rfl)
      have es28_0 : h_up s27 101 ((12 + (2 * a1)) + 1) br26 98 15 = s27 98 15 := rfl
      have es28_1 : h_up s27 101 ((12 + (2 * a1)) + 1) br26 98 16 = s27 98 16 := rfl
      have es28_2 : h_up s27 101 ((12 + (2 * a1)) + 1) br26 98 17 = s27 98 17 := rfl
      have es28_3 : h_up s27 101 ((12 + (2 * a1)) + 1) br26 98 18 = s27 98 18 := rfl
      have es28_4 : h_up s27 101 ((12 + (2 * a1)) + 1) br26 98 13 = s27 98 13 := rfl
      have es28_5 := h_up_at (σ := s27) (q := 101) (j := ((12 + (2 * a1)) + 1)) (v := br26) (i := 18)
      generalize h_up s27 101 ((12 + (2 * a1)) + 1) br26 = s28 at Is28 Fs28 es28_0 es28_1 es28_2 es28_3 es28_4 es28_5 ⊢
      refine h_aload_n (pc' := 61) rfl rfl rfl ?_
      refine h_getR (pc' := 64) rfl rfl rfl rfl rfl ?_
      refine h_iload_n (pc' := 65) rfl rfl rfl ?_
      refine h_bipush (pc' := 67) (x := (Int32.ofInt 6)) rfl rfl cb_6 ?_
      refine h_iadd (pc' := 68) (c := 18) rfl rfl ci_12 ci_6 rfl (by omega) (by omega) (fun z29 hz29 => ?_)
      refine h_dup2 (pc' := 69) rfl rfl rfl ?_
      refine h_iald (pc' := 70) (v := s28 101 18) rfl rfl rfl hz29 (by omega) (by omega) rfl (fun z30 hz30 => ?_)
      have tz30 := ty_101_3 Is28 18 (by omega)
      refine h_iconst (pc' := 71) (x := (Int32.ofInt 1)) rfl rfl rfl ?_
      refine h_iadd (pc' := 72) rfl rfl hz30 ci_1 rfl (by omega) (by omega) (fun z31 hz31 => ?_)
      refine h_iast (pc' := 73) rfl rfl rfl rfl hz29 (by omega) (by omega) hz31 ?_
      have Is32 : h_I (h_up s28 101 18 ((s28 101 18) + 1)) := (ip_101_3 Is28 (by omega) (by omega))
      have Fs32 := (Fs28.up (q := 101) (a := 18) (v := ((s28 101 18) + 1)) rfl)
      have es32_0 : h_up s28 101 18 ((s28 101 18) + 1) 98 15 = s28 98 15 := rfl
      have es32_1 : h_up s28 101 18 ((s28 101 18) + 1) 98 16 = s28 98 16 := rfl
      have es32_2 : h_up s28 101 18 ((s28 101 18) + 1) 98 17 = s28 98 17 := rfl
      have es32_3 : h_up s28 101 18 ((s28 101 18) + 1) 98 18 = s28 98 18 := rfl
      have es32_4 : h_up s28 101 18 ((s28 101 18) + 1) 98 13 = s28 98 13 := rfl
      have es32_5 : h_up s28 101 18 ((s28 101 18) + 1) 101 18 = ((s28 101 18) + 1) := rfl
      generalize h_up s28 101 18 ((s28 101 18) + 1) = s32 at Is32 Fs32 es32_0 es32_1 es32_2 es32_3 es32_4 es32_5 ⊢
      exact h_vret rfl rfl (kk _ Is32 Fs32 (by omega) (by omega))
    · refine h_aload_n (pc' := 21) rfl rfl rfl ?_
      refine h_getI (pc' := 24) (v := s2 98 18) rfl rfl rfl rfl rfl rfl (fun z33 hz33 => ?_)
      have tz33 := tf_98_18 Is2
      refine h_iload_n (pc' := 25) rfl rfl rfl ?_
      refine h_cne (tg := 33) (pc' := 28) rfl rfl rfl hz33 hr1 (fun c34 => ?_) (fun c34 => ?_)
      · refine h_aload_n (pc' := 34) rfl rfl rfl ?_
        refine h_getR (pc' := 37) rfl rfl rfl rfl rfl ?_
        refine h_iload_n (pc' := 38) rfl rfl rfl ?_
        refine h_iconst (pc' := 39) (x := (Int32.ofInt 2)) rfl rfl rfl ?_
        refine h_iload_n (pc' := 40) rfl rfl rfl ?_
        refine h_imul (pc' := 41) rfl rfl ci_2 hx1 rfl (by omega) (by omega) (fun z35 hz35 => ?_)
        refine h_iadd (pc' := 42) rfl rfl ci_12 hz35 rfl (by omega) (by omega) (fun z36 hz36 => ?_)
        refine h_iload_n (pc' := 43) rfl rfl rfl ?_
        refine h_iast (pc' := 44) rfl rfl rfl rfl hz36 (by omega) (by omega) hr1 ?_
        have Is37 : h_I (h_up s2 101 (12 + (2 * a1)) br1) := (ip_101_2 Is2 (by omega) (by omega))
        have Fs37 := (Fs2.up (q := 101) (a := (12 + (2 * a1))) (v := br1) rfl)
        have es37_0 : h_up s2 101 (12 + (2 * a1)) br1 98 15 = s2 98 15 := rfl
        have es37_1 : h_up s2 101 (12 + (2 * a1)) br1 98 16 = s2 98 16 := rfl
        have es37_2 : h_up s2 101 (12 + (2 * a1)) br1 98 17 = s2 98 17 := rfl
        have es37_3 : h_up s2 101 (12 + (2 * a1)) br1 98 18 = s2 98 18 := rfl
        have es37_4 : h_up s2 101 (12 + (2 * a1)) br1 98 13 = s2 98 13 := rfl
        have es37_5 := h_up_at (σ := s2) (q := 101) (j := (12 + (2 * a1))) (v := br1) (i := 18)
        generalize h_up s2 101 (12 + (2 * a1)) br1 = s37 at Is37 Fs37 es37_0 es37_1 es37_2 es37_3 es37_4 es37_5 ⊢
        refine h_aload_n (pc' := 45) rfl rfl rfl ?_
        refine h_getR (pc' := 48) rfl rfl rfl rfl rfl ?_
        refine h_iload_n (pc' := 49) rfl rfl rfl ?_
        refine h_iconst (pc' := 50) (x := (Int32.ofInt 2)) rfl rfl rfl ?_
        refine h_iload_n (pc' := 51) rfl rfl rfl ?_
        refine h_imul (pc' := 52) rfl rfl ci_2 hx1 rfl (by omega) (by omega) (fun z38 hz38 => ?_)
        refine h_iadd (pc' := 53) rfl rfl ci_12 hz38 rfl (by omega) (by omega) (fun z39 hz39 => ?_)
        refine h_iconst (pc' := 54) (x := (Int32.ofInt 1)) rfl rfl rfl ?_
        refine h_iadd (pc' := 55) rfl rfl hz39 ci_1 rfl (by omega) (by omega) (fun z40 hz40 => ?_)
        refine h_aload_n (pc' := 56) rfl rfl rfl ?_
        refine h_call (sp := false) (pc' := 59) (M := [(0, .ref 98)]) rfl rfl rfl rfl rfl rfl rfl rfl ?_
        refine v_oneHere _ Is37  (fun r41 br41 hr41 s42 Is42 Gs42 tr41 ps42_0 ps42_1 ps42_2 => h_Kv ?_)
        have Fs42 := (Gs42.l1).tr Fs37
        have es42_5 : s42 101 18 = s37 101 18 := Gs42 101 18 rfl
        refine h_iast (pc' := 60) rfl rfl rfl rfl hz40 (by omega) (by omega) hr41 ?_
        have Is43 : h_I (h_up s42 101 ((12 + (2 * a1)) + 1) br41) := (ip_101_2 Is42 (by omega) (by omega))
        have Fs43 := (Fs42.up (q := 101) (a := ((12 + (2 * a1)) + 1)) (v := br41) rfl)
        have es43_0 : h_up s42 101 ((12 + (2 * a1)) + 1) br41 98 15 = s42 98 15 := rfl
        have es43_1 : h_up s42 101 ((12 + (2 * a1)) + 1) br41 98 16 = s42 98 16 := rfl
        have es43_2 : h_up s42 101 ((12 + (2 * a1)) + 1) br41 98 17 = s42 98 17 := rfl
        have es43_3 : h_up s42 101 ((12 + (2 * a1)) + 1) br41 98 18 = s42 98 18 := rfl
        have es43_4 : h_up s42 101 ((12 + (2 * a1)) + 1) br41 98 13 = s42 98 13 := rfl
        have es43_5 := h_up_at (σ := s42) (q := 101) (j := ((12 + (2 * a1)) + 1)) (v := br41) (i := 18)
        generalize h_up s42 101 ((12 + (2 * a1)) + 1) br41 = s43 at Is43 Fs43 es43_0 es43_1 es43_2 es43_3 es43_4 es43_5 ⊢
        refine h_aload_n (pc' := 61) rfl rfl rfl ?_
        refine h_getR (pc' := 64) rfl rfl rfl rfl rfl ?_
        refine h_iload_n (pc' := 65) rfl rfl rfl ?_
        refine h_bipush (pc' := 67) (x := (Int32.ofInt 6)) rfl rfl cb_6 ?_
        refine h_iadd (pc' := 68) (c := 18) rfl rfl ci_12 ci_6 rfl (by omega) (by omega) (fun z44 hz44 => ?_)
        refine h_dup2 (pc' := 69) rfl rfl rfl ?_
        refine h_iald (pc' := 70) (v := s43 101 18) rfl rfl rfl hz44 (by omega) (by omega) rfl (fun z45 hz45 => ?_)
        have tz45 := ty_101_3 Is43 18 (by omega)
        refine h_iconst (pc' := 71) (x := (Int32.ofInt 1)) rfl rfl rfl ?_
        refine h_iadd (pc' := 72) rfl rfl hz45 ci_1 rfl (by omega) (by omega) (fun z46 hz46 => ?_)
        refine h_iast (pc' := 73) rfl rfl rfl rfl hz44 (by omega) (by omega) hz46 ?_
        have Is47 : h_I (h_up s43 101 18 ((s43 101 18) + 1)) := (ip_101_3 Is43 (by omega) (by omega))
        have Fs47 := (Fs43.up (q := 101) (a := 18) (v := ((s43 101 18) + 1)) rfl)
        have es47_0 : h_up s43 101 18 ((s43 101 18) + 1) 98 15 = s43 98 15 := rfl
        have es47_1 : h_up s43 101 18 ((s43 101 18) + 1) 98 16 = s43 98 16 := rfl
        have es47_2 : h_up s43 101 18 ((s43 101 18) + 1) 98 17 = s43 98 17 := rfl
        have es47_3 : h_up s43 101 18 ((s43 101 18) + 1) 98 18 = s43 98 18 := rfl
        have es47_4 : h_up s43 101 18 ((s43 101 18) + 1) 98 13 = s43 98 13 := rfl
        have es47_5 : h_up s43 101 18 ((s43 101 18) + 1) 101 18 = ((s43 101 18) + 1) := rfl
        generalize h_up s43 101 18 ((s43 101 18) + 1) = s47 at Is47 Fs47 es47_0 es47_1 es47_2 es47_3 es47_4 es47_5 ⊢
        exact h_vret rfl rfl (kk _ Is47 Fs47 (by omega) (by omega))
      · refine h_aload_n (pc' := 29) rfl rfl rfl ?_
        refine h_iconst (pc' := 30) (x := (Int32.ofInt 3)) rfl rfl rfl ?_
        refine h_call (sp := false) (pc' := 33) (M := [(0, .ref 98), (1, .int (Int32.ofInt 3))]) rfl rfl rfl rfl rfl rfl rfl rfl ?_
        refine h_aload_n (pc' := 1) rfl rfl rfl ?_
        refine h_getI (pc' := 4) (v := s2 98 13) rfl rfl rfl rfl rfl rfl (fun z48 hz48 => ?_)
        have tz48 := tf_98_13 Is2
        refine h_zne (tg := 20) (pc' := 7) rfl rfl rfl hz48 (fun c49 => absurd c49 (by omega)) (fun c49 => ?_)
        refine h_aload_n (pc' := 8) rfl rfl rfl ?_
        refine h_iload_n (pc' := 9) rfl rfl rfl ?_
        refine h_put (pc' := 12) rfl rfl rfl rfl rfl rfl ci_3 rfl ?_
        have Is50 : h_I (h_up s2 98 13 3) := (if_98_13 Is2 (by omega))
        have Fs50 := (Fs2.up (q := 98) (a := 13) (v := 3) rfl)
        have es50_0 : h_up s2 98 13 3 98 15 = s2 98 15 := rfl
        have es50_1 : h_up s2 98 13 3 98 16 = s2 98 16 := rfl
        have es50_2 : h_up s2 98 13 3 98 17 = s2 98 17 := rfl
        have es50_3 : h_up s2 98 13 3 98 18 = s2 98 18 := rfl
        have es50_4 : h_up s2 98 13 3 98 13 = 3 := rfl
        have es50_5 : h_up s2 98 13 3 101 18 = s2 101 18 := rfl
        generalize h_up s2 98 13 3 = s50 at Is50 Fs50 es50_0 es50_1 es50_2 es50_3 es50_4 es50_5 ⊢
        refine h_aload_n (pc' := 13) rfl rfl rfl ?_
        refine h_aload_n (pc' := 14) rfl rfl rfl ?_
        refine h_getI (pc' := 17) (v := s50 98 16) rfl rfl rfl rfl rfl rfl (fun z51 hz51 => ?_)
        have tz51 := tf_98_16 Is50
        refine h_put (pc' := 20) rfl rfl rfl rfl rfl rfl hz51 rfl ?_
        have Is52 : h_I (h_up s50 98 14 (s50 98 16)) := (if_98_14 Is50 (h_rgv hz51))
        have Fs52 := (Fs50.up (q := 98) (a := 14) (v := (s50 98 16)) rfl)
        have es52_0 : h_up s50 98 14 (s50 98 16) 98 15 = s50 98 15 := rfl
        have es52_1 : h_up s50 98 14 (s50 98 16) 98 16 = s50 98 16 := rfl
        have es52_2 : h_up s50 98 14 (s50 98 16) 98 17 = s50 98 17 := rfl
        have es52_3 : h_up s50 98 14 (s50 98 16) 98 18 = s50 98 18 := rfl
        have es52_4 : h_up s50 98 14 (s50 98 16) 98 13 = s50 98 13 := rfl
        have es52_5 : h_up s50 98 14 (s50 98 16) 101 18 = s50 101 18 := rfl
        generalize h_up s50 98 14 (s50 98 16) = s52 at Is52 Fs52 es52_0 es52_1 es52_2 es52_3 es52_4 es52_5 ⊢
        refine h_vret rfl rfl (h_Kn ?_)
        refine h_aload_n (pc' := 34) rfl rfl rfl ?_
        refine h_getR (pc' := 37) rfl rfl rfl rfl rfl ?_
        refine h_iload_n (pc' := 38) rfl rfl rfl ?_
        refine h_iconst (pc' := 39) (x := (Int32.ofInt 2)) rfl rfl rfl ?_
        refine h_iload_n (pc' := 40) rfl rfl rfl ?_
        refine h_imul (pc' := 41) rfl rfl ci_2 hx1 rfl (by omega) (by omega) (fun z53 hz53 => ?_)
        refine h_iadd (pc' := 42) rfl rfl ci_12 hz53 rfl (by omega) (by omega) (fun z54 hz54 => ?_)
        refine h_iload_n (pc' := 43) rfl rfl rfl ?_
        refine h_iast (pc' := 44) rfl rfl rfl rfl hz54 (by omega) (by omega) hr1 ?_
        have Is55 : h_I (h_up s52 101 (12 + (2 * a1)) br1) := (ip_101_2 Is52 (by omega) (by omega))
        have Fs55 := (Fs52.up (q := 101) (a := (12 + (2 * a1))) (v := br1) rfl)
        have es55_0 : h_up s52 101 (12 + (2 * a1)) br1 98 15 = s52 98 15 := rfl
        have es55_1 : h_up s52 101 (12 + (2 * a1)) br1 98 16 = s52 98 16 := rfl
        have es55_2 : h_up s52 101 (12 + (2 * a1)) br1 98 17 = s52 98 17 := rfl
        have es55_3 : h_up s52 101 (12 + (2 * a1)) br1 98 18 = s52 98 18 := rfl
        have es55_4 : h_up s52 101 (12 + (2 * a1)) br1 98 13 = s52 98 13 := rfl
        have es55_5 := h_up_at (σ := s52) (q := 101) (j := (12 + (2 * a1))) (v := br1) (i := 18)
        generalize h_up s52 101 (12 + (2 * a1)) br1 = s55 at Is55 Fs55 es55_0 es55_1 es55_2 es55_3 es55_4 es55_5 ⊢
        refine h_aload_n (pc' := 45) rfl rfl rfl ?_
        refine h_getR (pc' := 48) rfl rfl rfl rfl rfl ?_
        refine h_iload_n (pc' := 49) rfl rfl rfl ?_
        refine h_iconst (pc' := 50) (x := (Int32.ofInt 2)) rfl rfl rfl ?_
        refine h_iload_n (pc' := 51) rfl rfl rfl ?_
        refine h_imul (pc' := 52) rfl rfl ci_2 hx1 rfl (by omega) (by omega) (fun z56 hz56 => ?_)
        refine h_iadd (pc' := 53) rfl rfl ci_12 hz56 rfl (by omega) (by omega) (fun z57 hz57 => ?_)
        refine h_iconst (pc' := 54) (x := (Int32.ofInt 1)) rfl rfl rfl ?_
        refine h_iadd (pc' := 55) rfl rfl hz57 ci_1 rfl (by omega) (by omega) (fun z58 hz58 => ?_)
        refine h_aload_n (pc' := 56) rfl rfl rfl ?_
        refine h_call (sp := false) (pc' := 59) (M := [(0, .ref 98)]) rfl rfl rfl rfl rfl rfl rfl rfl ?_
        refine v_oneHere _ Is55  (fun r59 br59 hr59 s60 Is60 Gs60 tr59 ps60_0 ps60_1 ps60_2 => h_Kv ?_)
        have Fs60 := (Gs60.l1).tr Fs55
        have es60_5 : s60 101 18 = s55 101 18 := Gs60 101 18 rfl
        refine h_iast (pc' := 60) rfl rfl rfl rfl hz58 (by omega) (by omega) hr59 ?_
        have Is61 : h_I (h_up s60 101 ((12 + (2 * a1)) + 1) br59) := (ip_101_2 Is60 (by omega) (by omega))
        have Fs61 := (Fs60.up (q := 101) (a := ((12 + (2 * a1)) + 1)) (v := br59) rfl)
        have es61_0 : h_up s60 101 ((12 + (2 * a1)) + 1) br59 98 15 = s60 98 15 := rfl
        have es61_1 : h_up s60 101 ((12 + (2 * a1)) + 1) br59 98 16 = s60 98 16 := rfl
        have es61_2 : h_up s60 101 ((12 + (2 * a1)) + 1) br59 98 17 = s60 98 17 := rfl
        have es61_3 : h_up s60 101 ((12 + (2 * a1)) + 1) br59 98 18 = s60 98 18 := rfl
        have es61_4 : h_up s60 101 ((12 + (2 * a1)) + 1) br59 98 13 = s60 98 13 := rfl
        have es61_5 := h_up_at (σ := s60) (q := 101) (j := ((12 + (2 * a1)) + 1)) (v := br59) (i := 18)
        generalize h_up s60 101 ((12 + (2 * a1)) + 1) br59 = s61 at Is61 Fs61 es61_0 es61_1 es61_2 es61_3 es61_4 es61_5 ⊢
        refine h_aload_n (pc' := 61) rfl rfl rfl ?_
        refine h_getR (pc' := 64) rfl rfl rfl rfl rfl ?_
        refine h_iload_n (pc' := 65) rfl rfl rfl ?_
        refine h_bipush (pc' := 67) (x := (Int32.ofInt 6)) rfl rfl cb_6 ?_
        refine h_iadd (pc' := 68) (c := 18) rfl rfl ci_12 ci_6 rfl (by omega) (by omega) (fun z62 hz62 => ?_)
        refine h_dup2 (pc' := 69) rfl rfl rfl ?_
        refine h_iald (pc' := 70) (v := s61 101 18) rfl rfl rfl hz62 (by omega) (by omega) rfl (fun z63 hz63 => ?_)
        have tz63 := ty_101_3 Is61 18 (by omega)
        refine h_iconst (pc' := 71) (x := (Int32.ofInt 1)) rfl rfl rfl ?_
        refine h_iadd (pc' := 72) rfl rfl hz63 ci_1 rfl (by omega) (by omega) (fun z64 hz64 => ?_)
        refine h_iast (pc' := 73) rfl rfl rfl rfl hz62 (by omega) (by omega) hz64 ?_
        have Is65 : h_I (h_up s61 101 18 ((s61 101 18) + 1)) := (ip_101_3 Is61 (by omega) (by omega))
        have Fs65 := (Fs61.up (q := 101) (a := 18) (v := ((s61 101 18) + 1)) rfl)
        have es65_0 : h_up s61 101 18 ((s61 101 18) + 1) 98 15 = s61 98 15 := rfl
        have es65_1 : h_up s61 101 18 ((s61 101 18) + 1) 98 16 = s61 98 16 := rfl
        have es65_2 : h_up s61 101 18 ((s61 101 18) + 1) 98 17 = s61 98 17 := rfl
        have es65_3 : h_up s61 101 18 ((s61 101 18) + 1) 98 18 = s61 98 18 := rfl
        have es65_4 : h_up s61 101 18 ((s61 101 18) + 1) 98 13 = s61 98 13 := rfl
        have es65_5 : h_up s61 101 18 ((s61 101 18) + 1) 101 18 = ((s61 101 18) + 1) := rfl
        generalize h_up s61 101 18 ((s61 101 18) + 1) = s65 at Is65 Fs65 es65_0 es65_1 es65_2 es65_3 es65_4 es65_5 ⊢
        exact h_vret rfl rfl (kk _ Is65 Fs65 (by omega) (by omega))
theorem v_readPair19 {ns : Nat} (σ : h_S) (hI : h_I σ) (x1 : Int32) (a1 : Int) (hx1 : x1.toInt = a1) (ra1 : 0 ≤ a1 ∧ a1 ≤ 2) (pr0 : σ 101 25 ≤ 2) {Q : Option Value → h_S → Prop} (kk : ∀ (τ : h_S), h_I τ → h_F k_nt τ σ → (σ 98 15 ≤ τ 98 15) → (¬ σ 98 13 = 0 → ¬ τ 98 13 = 0) → Q none τ) : h_T g_P (g_Y ns) 151 0 [(0, .ref 98), (1, .int (Int32.ofInt 19)), (2, .int x1)] [] σ Q := by
  have F00 : h_F k_nt σ σ := h_F.rf
  refine h_aload_n (pc' := 1) rfl rfl rfl ?_
  refine h_call (sp := false) (pc' := 4) (M := [(0, .ref 98)]) rfl rfl rfl rfl rfl rfl rfl rfl ?_
  refine v_oneHere _ hI  (fun r1 br1 hr1 s2 Is2 Gs2 tr1 ps2_0 ps2_1 ps2_2 => h_Kv ?_)
  have Fs2 := (Gs2.l1).tr F00
  have es2_5 : s2 101 25 = σ 101 25 := Gs2 101 25 rfl
  refine h_istore_n (pc' := 5) (M := [(3, .int r1), (0, .ref 98), (1, .int (Int32.ofInt 19)), (2, .int x1)]) rfl rfl rfl rfl ?_
  refine h_aload_n (pc' := 6) rfl rfl rfl ?_
  refine h_getI (pc' := 9) (v := s2 98 13) rfl rfl rfl rfl rfl rfl (fun z3 hz3 => ?_)
  have tz3 := tf_98_13 Is2
  refine h_zne (tg := 33) (pc' := 12) rfl rfl rfl hz3 (fun c4 => ?_) (fun c4 => ?_)
  · refine h_aload_n (pc' := 34) rfl rfl rfl ?_
    refine h_getR (pc' := 37) rfl rfl rfl rfl rfl ?_
    refine h_iload_n (pc' := 38) rfl rfl rfl ?_
    refine h_iconst (pc' := 39) (x := (Int32.ofInt 2)) rfl rfl rfl ?_
    refine h_iload_n (pc' := 40) rfl rfl rfl ?_
    refine h_imul (pc' := 41) rfl rfl ci_2 hx1 rfl (by omega) (by omega) (fun z5 hz5 => ?_)
    refine h_iadd (pc' := 42) rfl rfl ci_19 hz5 rfl (by omega) (by omega) (fun z6 hz6 => ?_)
    refine h_iload_n (pc' := 43) rfl rfl rfl ?_
    refine h_iast (pc' := 44) rfl rfl rfl rfl hz6 (by omega) (by omega) hr1 ?_
    have Is7 : h_I (h_up s2 101 (19 + (2 * a1)) br1) := (ip_101_4 Is2 (by omega) (by omega))
    have Fs7 := (Fs2.up (q := 101) (a := (19 + (2 * a1))) (v := br1) rfl)
    have es7_0 : h_up s2 101 (19 + (2 * a1)) br1 98 15 = s2 98 15 := rfl
    have es7_1 : h_up s2 101 (19 + (2 * a1)) br1 98 16 = s2 98 16 := rfl
    have es7_2 : h_up s2 101 (19 + (2 * a1)) br1 98 17 = s2 98 17 := rfl
    have es7_3 : h_up s2 101 (19 + (2 * a1)) br1 98 18 = s2 98 18 := rfl
    have es7_4 : h_up s2 101 (19 + (2 * a1)) br1 98 13 = s2 98 13 := rfl
    have es7_5 := h_up_at (σ := s2) (q := 101) (j := (19 + (2 * a1))) (v := br1) (i := 25)
    generalize h_up s2 101 (19 + (2 * a1)) br1 = s7 at Is7 Fs7 es7_0 es7_1 es7_2 es7_3 es7_4 es7_5 ⊢
    refine h_aload_n (pc' := 45) rfl rfl rfl ?_
    refine h_getR (pc' := 48) rfl rfl rfl rfl rfl ?_
    refine h_iload_n (pc' := 49) rfl rfl rfl ?_
    refine h_iconst (pc' := 50) (x := (Int32.ofInt 2)) rfl rfl rfl ?_
    refine h_iload_n (pc' := 51) rfl rfl rfl ?_
    refine h_imul (pc' := 52) rfl rfl ci_2 hx1 rfl (by omega) (by omega) (fun z8 hz8 => ?_)
    refine h_iadd (pc' := 53) rfl rfl ci_19 hz8 rfl (by omega) (by omega) (fun z9 hz9 => ?_)
    refine h_iconst (pc' := 54) (x := (Int32.ofInt 1)) rfl rfl rfl ?_
    refine h_iadd (pc' := 55) rfl rfl hz9 ci_1 rfl (by omega) (by omega) (fun z10 hz10 => ?_)
    refine h_aload_n (pc' := 56) rfl rfl rfl ?_
    refine h_call (sp := false) (pc' := 59) (M := [(0, .ref 98)]) rfl rfl rfl rfl rfl rfl rfl rfl ?_
    refine v_oneHere _ Is7  (fun r11 br11 hr11 s12 Is12 Gs12 tr11 ps12_0 ps12_1 ps12_2 => h_Kv ?_)
    have Fs12 := (Gs12.l1).tr Fs7
    have es12_5 : s12 101 25 = s7 101 25 := Gs12 101 25 rfl
    refine h_iast (pc' := 60) rfl rfl rfl rfl hz10 (by omega) (by omega) hr11 ?_
    have Is13 : h_I (h_up s12 101 ((19 + (2 * a1)) + 1) br11) := (ip_101_4 Is12 (by omega) (by omega))
    have Fs13 := (Fs12.up (q := 101) (a := ((19 + (2 * a1)) + 1)) (v := br11) rfl)
    have es13_0 : h_up s12 101 ((19 + (2 * a1)) + 1) br11 98 15 = s12 98 15 := rfl
    have es13_1 : h_up s12 101 ((19 + (2 * a1)) + 1) br11 98 16 = s12 98 16 := rfl
    have es13_2 : h_up s12 101 ((19 + (2 * a1)) + 1) br11 98 17 = s12 98 17 := rfl
    have es13_3 : h_up s12 101 ((19 + (2 * a1)) + 1) br11 98 18 = s12 98 18 := rfl
    have es13_4 : h_up s12 101 ((19 + (2 * a1)) + 1) br11 98 13 = s12 98 13 := rfl
    have es13_5 := h_up_at (σ := s12) (q := 101) (j := ((19 + (2 * a1)) + 1)) (v := br11) (i := 25)
    generalize h_up s12 101 ((19 + (2 * a1)) + 1) br11 = s13 at Is13 Fs13 es13_0 es13_1 es13_2 es13_3 es13_4 es13_5 ⊢
    refine h_aload_n (pc' := 61) rfl rfl rfl ?_
    refine h_getR (pc' := 64) rfl rfl rfl rfl rfl ?_
    refine h_iload_n (pc' := 65) rfl rfl rfl ?_
    refine h_bipush (pc' := 67) (x := (Int32.ofInt 6)) rfl rfl cb_6 ?_
    refine h_iadd (pc' := 68) (c := 25) rfl rfl ci_19 ci_6 rfl (by omega) (by omega) (fun z14 hz14 => ?_)
    refine h_dup2 (pc' := 69) rfl rfl rfl ?_
    refine h_iald (pc' := 70) (v := s13 101 25) rfl rfl rfl hz14 (by omega) (by omega) rfl (fun z15 hz15 => ?_)
    have tz15 := ty_101_5 Is13 25 (by omega)
    refine h_iconst (pc' := 71) (x := (Int32.ofInt 1)) rfl rfl rfl ?_
    refine h_iadd (pc' := 72) rfl rfl hz15 ci_1 rfl (by omega) (by omega) (fun z16 hz16 => ?_)
    refine h_iast (pc' := 73) rfl rfl rfl rfl hz14 (by omega) (by omega) hz16 ?_
    have Is17 : h_I (h_up s13 101 25 ((s13 101 25) + 1)) := (ip_101_5 Is13 (by omega) (by omega))
    have Fs17 := (Fs13.up (q := 101) (a := 25) (v := ((s13 101 25) + 1)) rfl)
    have es17_0 : h_up s13 101 25 ((s13 101 25) + 1) 98 15 = s13 98 15 := rfl
    have es17_1 : h_up s13 101 25 ((s13 101 25) + 1) 98 16 = s13 98 16 := rfl
    have es17_2 : h_up s13 101 25 ((s13 101 25) + 1) 98 17 = s13 98 17 := rfl
    have es17_3 : h_up s13 101 25 ((s13 101 25) + 1) 98 18 = s13 98 18 := rfl
    have es17_4 : h_up s13 101 25 ((s13 101 25) + 1) 98 13 = s13 98 13 := rfl
    have es17_5 : h_up s13 101 25 ((s13 101 25) + 1) 101 25 = ((s13 101 25) + 1) := rfl
    generalize h_up s13 101 25 ((s13 101 25) + 1) = s17 at Is17 Fs17 es17_0 es17_1 es17_2 es17_3 es17_4 es17_5 ⊢
    exact h_vret rfl rfl (kk _ Is17 Fs17 (by omega) (by omega))
  · refine h_aload_n (pc' := 13) rfl rfl rfl ?_
    refine h_getI (pc' := 16) (v := s2 98 17) rfl rfl rfl rfl rfl rfl (fun z18 hz18 => ?_)
    have tz18 := tf_98_17 Is2
    refine h_iconst (pc' := 17) (x := (Int32.ofInt 2)) rfl rfl rfl ?_
    refine h_cne (tg := 33) (pc' := 20) rfl rfl rfl hz18 ci_2 (fun c19 => ?_) (fun c19 => ?_)
    · refine h_aload_n (pc' := 34) rfl rfl rfl ?_
      refine h_getR (pc' := 37) rfl rfl rfl rfl rfl ?_
      refine h_iload_n (pc' := 38) rfl rfl rfl ?_
      refine h_iconst (pc' := 39) (x := (Int32.ofInt 2)) rfl rfl rfl ?_
      refine h_iload_n (pc' := 40) rfl rfl rfl ?_
      refine h_imul (pc' := 41) rfl rfl ci_2 hx1 rfl (by omega) (by omega) (fun z20 hz20 => ?_)
      refine h_iadd (pc' := 42) rfl rfl ci_19 hz20 rfl (by omega) (by omega) (fun z21 hz21 => ?_)
      refine h_iload_n (pc' := 43) rfl rfl rfl ?_
      refine h_iast (pc' := 44) rfl rfl rfl rfl hz21 (by omega) (by omega) hr1 ?_
      have Is22 : h_I (h_up s2 101 (19 + (2 * a1)) br1) := (ip_101_4 Is2 (by omega) (by omega))
      have Fs22 := (Fs2.up (q := 101) (a := (19 + (2 * a1))) (v := br1) rfl)
      have es22_0 : h_up s2 101 (19 + (2 * a1)) br1 98 15 = s2 98 15 := rfl
      have es22_1 : h_up s2 101 (19 + (2 * a1)) br1 98 16 = s2 98 16 := rfl
      have es22_2 : h_up s2 101 (19 + (2 * a1)) br1 98 17 = s2 98 17 := rfl
      have es22_3 : h_up s2 101 (19 + (2 * a1)) br1 98 18 = s2 98 18 := rfl
      have es22_4 : h_up s2 101 (19 + (2 * a1)) br1 98 13 = s2 98 13 := rfl
      have es22_5 := h_up_at (σ := s2) (q := 101) (j := (19 + (2 * a1))) (v := br1) (i := 25)
      generalize h_up s2 101 (19 + (2 * a1)) br1 = s22 at Is22 Fs22 es22_0 es22_1 es22_2 es22_3 es22_4 es22_5 ⊢
      refine h_aload_n (pc' := 45) rfl rfl rfl ?_
      refine h_getR (pc' := 48) rfl rfl rfl rfl rfl ?_
      refine h_iload_n (pc' := 49) rfl rfl rfl ?_
      refine h_iconst (pc' := 50) (x := (Int32.ofInt 2)) rfl rfl rfl ?_
      refine h_iload_n (pc' := 51) rfl rfl rfl ?_
      refine h_imul (pc' := 52) rfl rfl ci_2 hx1 rfl (by omega) (by omega) (fun z23 hz23 => ?_)
      refine h_iadd (pc' := 53) rfl rfl ci_19 hz23 rfl (by omega) (by omega) (fun z24 hz24 => ?_)
      refine h_iconst (pc' := 54) (x := (Int32.ofInt 1)) rfl rfl rfl ?_
      refine h_iadd (pc' := 55) rfl rfl hz24 ci_1 rfl (by omega) (by omega) (fun z25 hz25 => ?_)
      refine h_aload_n (pc' := 56) rfl rfl rfl ?_
      refine h_call (sp := false) (pc' := 59) (M := [(0, .ref 98)]) rfl rfl rfl rfl rfl rfl rfl rfl ?_
      refine v_oneHere _ Is22  (fun r26 br26 hr26 s27 Is27 Gs27 tr26 ps27_0 ps27_1 ps27_2 => h_Kv ?_)
      have Fs27 := (Gs27.l1).tr Fs22
      have es27_5 : s27 101 25 = s22 101 25 := Gs27 101 25 rfl
      refine h_iast (pc' := 60) rfl rfl rfl rfl hz25 (by omega) (by omega) hr26 ?_
      have Is28 : h_I (h_up s27 101 ((19 + (2 * a1)) + 1) br26) := (ip_101_4 Is27 (by omega) (by omega))
      have Fs28 := (Fs27.up (q := 101) (a := ((19 + (2 * a1)) + 1)) (v := br26) rfl)
      have es28_0 : h_up s27 101 ((19 + (2 * a1)) + 1) br26 98 15 = s27 98 15 := rfl
      have es28_1 : h_up s27 101 ((19 + (2 * a1)) + 1) br26 98 16 = s27 98 16 := rfl
      have es28_2 : h_up s27 101 ((19 + (2 * a1)) + 1) br26 98 17 = s27 98 17 := rfl
      have es28_3 : h_up s27 101 ((19 + (2 * a1)) + 1) br26 98 18 = s27 98 18 := rfl
      have es28_4 : h_up s27 101 ((19 + (2 * a1)) + 1) br26 98 13 = s27 98 13 := rfl
      have es28_5 := h_up_at (σ := s27) (q := 101) (j := ((19 + (2 * a1)) + 1)) (v := br26) (i := 25)
      generalize h_up s27 101 ((19 + (2 * a1)) + 1) br26 = s28 at Is28 Fs28 es28_0 es28_1 es28_2 es28_3 es28_4 es28_5 ⊢
      refine h_aload_n (pc' := 61) rfl rfl rfl ?_
      refine h_getR (pc' := 64) rfl rfl rfl rfl rfl ?_
      refine h_iload_n (pc' := 65) rfl rfl rfl ?_
      refine h_bipush (pc' := 67) (x := (Int32.ofInt 6)) rfl rfl cb_6 ?_
      refine h_iadd (pc' := 68) (c := 25) rfl rfl ci_19 ci_6 rfl (by omega) (by omega) (fun z29 hz29 => ?_)
      refine h_dup2 (pc' := 69) rfl rfl rfl ?_
      refine h_iald (pc' := 70) (v := s28 101 25) rfl rfl rfl hz29 (by omega) (by omega) rfl (fun z30 hz30 => ?_)
      have tz30 := ty_101_5 Is28 25 (by omega)
      refine h_iconst (pc' := 71) (x := (Int32.ofInt 1)) rfl rfl rfl ?_
      refine h_iadd (pc' := 72) rfl rfl hz30 ci_1 rfl (by omega) (by omega) (fun z31 hz31 => ?_)
      refine h_iast (pc' := 73) rfl rfl rfl rfl hz29 (by omega) (by omega) hz31 ?_
      have Is32 : h_I (h_up s28 101 25 ((s28 101 25) + 1)) := (ip_101_5 Is28 (by omega) (by omega))
      have Fs32 := (Fs28.up (q := 101) (a := 25) (v := ((s28 101 25) + 1)) rfl)
      have es32_0 : h_up s28 101 25 ((s28 101 25) + 1) 98 15 = s28 98 15 := rfl
      have es32_1 : h_up s28 101 25 ((s28 101 25) + 1) 98 16 = s28 98 16 := rfl
      have es32_2 : h_up s28 101 25 ((s28 101 25) + 1) 98 17 = s28 98 17 := rfl
      have es32_3 : h_up s28 101 25 ((s28 101 25) + 1) 98 18 = s28 98 18 := rfl
      have es32_4 : h_up s28 101 25 ((s28 101 25) + 1) 98 13 = s28 98 13 := rfl
      have es32_5 : h_up s28 101 25 ((s28 101 25) + 1) 101 25 = ((s28 101 25) + 1) := rfl
      generalize h_up s28 101 25 ((s28 101 25) + 1) = s32 at Is32 Fs32 es32_0 es32_1 es32_2 es32_3 es32_4 es32_5 ⊢
      exact h_vret rfl rfl (kk _ Is32 Fs32 (by omega) (by omega))
    · refine h_aload_n (pc' := 21) rfl rfl rfl ?_
      refine h_getI (pc' := 24) (v := s2 98 18) rfl rfl rfl rfl rfl rfl (fun z33 hz33 => ?_)
      have tz33 := tf_98_18 Is2
      refine h_iload_n (pc' := 25) rfl rfl rfl ?_
      refine h_cne (tg := 33) (pc' := 28) rfl rfl rfl hz33 hr1 (fun c34 => ?_) (fun c34 => ?_)
      · refine h_aload_n (pc' := 34) rfl rfl rfl ?_
        refine h_getR (pc' := 37) rfl rfl rfl rfl rfl ?_
        refine h_iload_n (pc' := 38) rfl rfl rfl ?_
        refine h_iconst (pc' := 39) (x := (Int32.ofInt 2)) rfl rfl rfl ?_
        refine h_iload_n (pc' := 40) rfl rfl rfl ?_
        refine h_imul (pc' := 41) rfl rfl ci_2 hx1 rfl (by omega) (by omega) (fun z35 hz35 => ?_)
        refine h_iadd (pc' := 42) rfl rfl ci_19 hz35 rfl (by omega) (by omega) (fun z36 hz36 => ?_)
        refine h_iload_n (pc' := 43) rfl rfl rfl ?_
        refine h_iast (pc' := 44) rfl rfl rfl rfl hz36 (by omega) (by omega) hr1 ?_
        have Is37 : h_I (h_up s2 101 (19 + (2 * a1)) br1) := (ip_101_4 Is2 (by omega) (by omega))
        have Fs37 := (Fs2.up (q := 101) (a := (19 + (2 * a1))) (v := br1) rfl)
        have es37_0 : h_up s2 101 (19 + (2 * a1)) br1 98 15 = s2 98 15 := rfl
        have es37_1 : h_up s2 101 (19 + (2 * a1)) br1 98 16 = s2 98 16 := rfl
        have es37_2 : h_up s2 101 (19 + (2 * a1)) br1 98 17 = s2 98 17 := rfl
        have es37_3 : h_up s2 101 (19 + (2 * a1)) br1 98 18 = s2 98 18 := rfl
        have es37_4 : h_up s2 101 (19 + (2 * a1)) br1 98 13 = s2 98 13 := rfl
        have es37_5 := h_up_at (σ := s2) (q := 101) (j := (19 + (2 * a1))) (v := br1) (i := 25)
        generalize h_up s2 101 (19 + (2 * a1)) br1 = s37 at Is37 Fs37 es37_0 es37_1 es37_2 es37_3 es37_4 es37_5 ⊢
        refine h_aload_n (pc' := 45) rfl rfl rfl ?_
        refine h_getR (pc' := 48) rfl rfl rfl rfl rfl ?_
        refine h_iload_n (pc' := 49) rfl rfl rfl ?_
        refine h_iconst (pc' := 50) (x := (Int32.ofInt 2)) rfl rfl rfl ?_
        refine h_iload_n (pc' := 51) rfl rfl rfl ?_
        refine h_imul (pc' := 52) rfl rfl ci_2 hx1 rfl (by omega) (by omega) (fun z38 hz38 => ?_)
        refine h_iadd (pc' := 53) rfl rfl ci_19 hz38 rfl (by omega) (by omega) (fun z39 hz39 => ?_)
        refine h_iconst (pc' := 54) (x := (Int32.ofInt 1)) rfl rfl rfl ?_
        refine h_iadd (pc' := 55) rfl rfl hz39 ci_1 rfl (by omega) (by omega) (fun z40 hz40 => ?_)
        refine h_aload_n (pc' := 56) rfl rfl rfl ?_
        refine h_call (sp := false) (pc' := 59) (M := [(0, .ref 98)]) rfl rfl rfl rfl rfl rfl rfl rfl ?_
        refine v_oneHere _ Is37  (fun r41 br41 hr41 s42 Is42 Gs42 tr41 ps42_0 ps42_1 ps42_2 => h_Kv ?_)
        have Fs42 := (Gs42.l1).tr Fs37
        have es42_5 : s42 101 25 = s37 101 25 := Gs42 101 25 rfl
        refine h_iast (pc' := 60) rfl rfl rfl rfl hz40 (by omega) (by omega) hr41 ?_
        have Is43 : h_I (h_up s42 101 ((19 + (2 * a1)) + 1) br41) := (ip_101_4 Is42 (by omega) (by omega))
        have Fs43 := (Fs42.up (q := 101) (a := ((19 + (2 * a1)) + 1)) (v := br41) rfl)
        have es43_0 : h_up s42 101 ((19 + (2 * a1)) + 1) br41 98 15 = s42 98 15 := rfl
        have es43_1 : h_up s42 101 ((19 + (2 * a1)) + 1) br41 98 16 = s42 98 16 := rfl
        have es43_2 : h_up s42 101 ((19 + (2 * a1)) + 1) br41 98 17 = s42 98 17 := rfl
        have es43_3 : h_up s42 101 ((19 + (2 * a1)) + 1) br41 98 18 = s42 98 18 := rfl
        have es43_4 : h_up s42 101 ((19 + (2 * a1)) + 1) br41 98 13 = s42 98 13 := rfl
        have es43_5 := h_up_at (σ := s42) (q := 101) (j := ((19 + (2 * a1)) + 1)) (v := br41) (i := 25)
        generalize h_up s42 101 ((19 + (2 * a1)) + 1) br41 = s43 at Is43 Fs43 es43_0 es43_1 es43_2 es43_3 es43_4 es43_5 ⊢
        refine h_aload_n (pc' := 61) rfl rfl rfl ?_
        refine h_getR (pc' := 64) rfl rfl rfl rfl rfl ?_
        refine h_iload_n (pc' := 65) rfl rfl rfl ?_
        refine h_bipush (pc' := 67) (x := (Int32.ofInt 6)) rfl rfl cb_6 ?_
        refine h_iadd (pc' := 68) (c := 25) rfl rfl ci_19 ci_6 rfl (by omega) (by omega) (fun z44 hz44 => ?_)
        refine h_dup2 (pc' := 69) rfl rfl rfl ?_
        refine h_iald (pc' := 70) (v := s43 101 25) rfl rfl rfl hz44 (by omega) (by omega) rfl (fun z45 hz45 => ?_)
        have tz45 := ty_101_5 Is43 25 (by omega)
        refine h_iconst (pc' := 71) (x := (Int32.ofInt 1)) rfl rfl rfl ?_
        refine h_iadd (pc' := 72) rfl rfl hz45 ci_1 rfl (by omega) (by omega) (fun z46 hz46 => ?_)
        refine h_iast (pc' := 73) rfl rfl rfl rfl hz44 (by omega) (by omega) hz46 ?_
        have Is47 : h_I (h_up s43 101 25 ((s43 101 25) + 1)) := (ip_101_5 Is43 (by omega) (by omega))
        have Fs47 := (Fs43.up (q := 101) (a := 25) (v := ((s43 101 25) + 1)) rfl)
        have es47_0 : h_up s43 101 25 ((s43 101 25) + 1) 98 15 = s43 98 15 := rfl
        have es47_1 : h_up s43 101 25 ((s43 101 25) + 1) 98 16 = s43 98 16 := rfl
        have es47_2 : h_up s43 101 25 ((s43 101 25) + 1) 98 17 = s43 98 17 := rfl
        have es47_3 : h_up s43 101 25 ((s43 101 25) + 1) 98 18 = s43 98 18 := rfl
        have es47_4 : h_up s43 101 25 ((s43 101 25) + 1) 98 13 = s43 98 13 := rfl
        have es47_5 : h_up s43 101 25 ((s43 101 25) + 1) 101 25 = ((s43 101 25) + 1) := rfl
        generalize h_up s43 101 25 ((s43 101 25) + 1) = s47 at Is47 Fs47 es47_0 es47_1 es47_2 es47_3 es47_4 es47_5 ⊢
        exact h_vret rfl rfl (kk _ Is47 Fs47 (by omega) (by omega))
      · refine h_aload_n (pc' := 29) rfl rfl rfl ?_
        refine h_iconst (pc' := 30) (x := (Int32.ofInt 3)) rfl rfl rfl ?_
        refine h_call (sp := false) (pc' := 33) (M := [(0, .ref 98), (1, .int (Int32.ofInt 3))]) rfl rfl rfl rfl rfl rfl rfl rfl ?_
        refine h_aload_n (pc' := 1) rfl rfl rfl ?_
        refine h_getI (pc' := 4) (v := s2 98 13) rfl rfl rfl rfl rfl rfl (fun z48 hz48 => ?_)
        have tz48 := tf_98_13 Is2
        refine h_zne (tg := 20) (pc' := 7) rfl rfl rfl hz48 (fun c49 => absurd c49 (by omega)) (fun c49 => ?_)
        refine h_aload_n (pc' := 8) rfl rfl rfl ?_
        refine h_iload_n (pc' := 9) rfl rfl rfl ?_
        refine h_put (pc' := 12) rfl rfl rfl rfl rfl rfl ci_3 rfl ?_
        have Is50 : h_I (h_up s2 98 13 3) := (if_98_13 Is2 (by omega))
        have Fs50 := (Fs2.up (q := 98) (a := 13) (v := 3) rfl)
        have es50_0 : h_up s2 98 13 3 98 15 = s2 98 15 := rfl
        have es50_1 : h_up s2 98 13 3 98 16 = s2 98 16 := rfl
        have es50_2 : h_up s2 98 13 3 98 17 = s2 98 17 := rfl
        have es50_3 : h_up s2 98 13 3 98 18 = s2 98 18 := rfl
        have es50_4 : h_up s2 98 13 3 98 13 = 3 := rfl
        have es50_5 : h_up s2 98 13 3 101 25 = s2 101 25 := rfl
        generalize h_up s2 98 13 3 = s50 at Is50 Fs50 es50_0 es50_1 es50_2 es50_3 es50_4 es50_5 ⊢
        refine h_aload_n (pc' := 13) rfl rfl rfl ?_
        refine h_aload_n (pc' := 14) rfl rfl rfl ?_
        refine h_getI (pc' := 17) (v := s50 98 16) rfl rfl rfl rfl rfl rfl (fun z51 hz51 => ?_)
        have tz51 := tf_98_16 Is50
        refine h_put (pc' := 20) rfl rfl rfl rfl rfl rfl hz51 rfl ?_
        have Is52 : h_I (h_up s50 98 14 (s50 98 16)) := (if_98_14 Is50 (h_rgv hz51))
        have Fs52 := (Fs50.up (q := 98) (a := 14) (v := (s50 98 16)) rfl)
        have es52_0 : h_up s50 98 14 (s50 98 16) 98 15 = s50 98 15 := rfl
        have es52_1 : h_up s50 98 14 (s50 98 16) 98 16 = s50 98 16 := rfl
        have es52_2 : h_up s50 98 14 (s50 98 16) 98 17 = s50 98 17 := rfl
        have es52_3 : h_up s50 98 14 (s50 98 16) 98 18 = s50 98 18 := rfl
        have es52_4 : h_up s50 98 14 (s50 98 16) 98 13 = s50 98 13 := rfl
        have es52_5 : h_up s50 98 14 (s50 98 16) 101 25 = s50 101 25 := rfl
        generalize h_up s50 98 14 (s50 98 16) = s52 at Is52 Fs52 es52_0 es52_1 es52_2 es52_3 es52_4 es52_5 ⊢
        refine h_vret rfl rfl (h_Kn ?_)
        refine h_aload_n (pc' := 34) rfl rfl rfl ?_
        refine h_getR (pc' := 37) rfl rfl rfl rfl rfl ?_
        refine h_iload_n (pc' := 38) rfl rfl rfl ?_
        refine h_iconst (pc' := 39) (x := (Int32.ofInt 2)) rfl rfl rfl ?_
        refine h_iload_n (pc' := 40) rfl rfl rfl ?_
        refine h_imul (pc' := 41) rfl rfl ci_2 hx1 rfl (by omega) (by omega) (fun z53 hz53 => ?_)
        refine h_iadd (pc' := 42) rfl rfl ci_19 hz53 rfl (by omega) (by omega) (fun z54 hz54 => ?_)
        refine h_iload_n (pc' := 43) rfl rfl rfl ?_
        refine h_iast (pc' := 44) rfl rfl rfl rfl hz54 (by omega) (by omega) hr1 ?_
        have Is55 : h_I (h_up s52 101 (19 + (2 * a1)) br1) := (ip_101_4 Is52 (by omega) (by omega))
        have Fs55 := (Fs52.up (q := 101) (a := (19 + (2 * a1))) (v := br1) rfl)
        have es55_0 : h_up s52 101 (19 + (2 * a1)) br1 98 15 = s52 98 15 := rfl
        have es55_1 : h_up s52 101 (19 + (2 * a1)) br1 98 16 = s52 98 16 := rfl
        have es55_2 : h_up s52 101 (19 + (2 * a1)) br1 98 17 = s52 98 17 := rfl
        have es55_3 : h_up s52 101 (19 + (2 * a1)) br1 98 18 = s52 98 18 := rfl
        have es55_4 : h_up s52 101 (19 + (2 * a1)) br1 98 13 = s52 98 13 := rfl
        have es55_5 := h_up_at (σ := s52) (q := 101) (j := (19 + (2 * a1))) (v := br1) (i := 25)
        generalize h_up s52 101 (19 + (2 * a1)) br1 = s55 at Is55 Fs55 es55_0 es55_1 es55_2 es55_3 es55_4 es55_5 ⊢
        refine h_aload_n (pc' := 45) rfl rfl rfl ?_
        refine h_getR (pc' := 48) rfl rfl rfl rfl rfl ?_
        refine h_iload_n (pc' := 49) rfl rfl rfl ?_
        refine h_iconst (pc' := 50) (x := (Int32.ofInt 2)) rfl rfl rfl ?_
        refine h_iload_n (pc' := 51) rfl rfl rfl ?_
        refine h_imul (pc' := 52) rfl rfl ci_2 hx1 rfl (by omega) (by omega) (fun z56 hz56 => ?_)
        refine h_iadd (pc' := 53) rfl rfl ci_19 hz56 rfl (by omega) (by omega) (fun z57 hz57 => ?_)
        refine h_iconst (pc' := 54) (x := (Int32.ofInt 1)) rfl rfl rfl ?_
        refine h_iadd (pc' := 55) rfl rfl hz57 ci_1 rfl (by omega) (by omega) (fun z58 hz58 => ?_)
        refine h_aload_n (pc' := 56) rfl rfl rfl ?_
        refine h_call (sp := false) (pc' := 59) (M := [(0, .ref 98)]) rfl rfl rfl rfl rfl rfl rfl rfl ?_
        refine v_oneHere _ Is55  (fun r59 br59 hr59 s60 Is60 Gs60 tr59 ps60_0 ps60_1 ps60_2 => h_Kv ?_)
        have Fs60 := (Gs60.l1).tr Fs55
        have es60_5 : s60 101 25 = s55 101 25 := Gs60 101 25 rfl
        refine h_iast (pc' := 60) rfl rfl rfl rfl hz58 (by omega) (by omega) hr59 ?_
        have Is61 : h_I (h_up s60 101 ((19 + (2 * a1)) + 1) br59) := (ip_101_4 Is60 (by omega) (by omega))
        have Fs61 := (Fs60.up (q := 101) (a := ((19 + (2 * a1)) + 1)) (v := br59) rfl)
        have es61_0 : h_up s60 101 ((19 + (2 * a1)) + 1) br59 98 15 = s60 98 15 := rfl
        have es61_1 : h_up s60 101 ((19 + (2 * a1)) + 1) br59 98 16 = s60 98 16 := rfl
        have es61_2 : h_up s60 101 ((19 + (2 * a1)) + 1) br59 98 17 = s60 98 17 := rfl
        have es61_3 : h_up s60 101 ((19 + (2 * a1)) + 1) br59 98 18 = s60 98 18 := rfl
        have es61_4 : h_up s60 101 ((19 + (2 * a1)) + 1) br59 98 13 = s60 98 13 := rfl
        have es61_5 := h_up_at (σ := s60) (q := 101) (j := ((19 + (2 * a1)) + 1)) (v := br59) (i := 25)
        generalize h_up s60 101 ((19 + (2 * a1)) + 1) br59 = s61 at Is61 Fs61 es61_0 es61_1 es61_2 es61_3 es61_4 es61_5 ⊢
        refine h_aload_n (pc' := 61) rfl rfl rfl ?_
        refine h_getR (pc' := 64) rfl rfl rfl rfl rfl ?_
        refine h_iload_n (pc' := 65) rfl rfl rfl ?_
        refine h_bipush (pc' := 67) (x := (Int32.ofInt 6)) rfl rfl cb_6 ?_
        refine h_iadd (pc' := 68) (c := 25) rfl rfl ci_19 ci_6 rfl (by omega) (by omega) (fun z62 hz62 => ?_)
        refine h_dup2 (pc' := 69) rfl rfl rfl ?_
        refine h_iald (pc' := 70) (v := s61 101 25) rfl rfl rfl hz62 (by omega) (by omega) rfl (fun z63 hz63 => ?_)
        have tz63 := ty_101_5 Is61 25 (by omega)
        refine h_iconst (pc' := 71) (x := (Int32.ofInt 1)) rfl rfl rfl ?_
        refine h_iadd (pc' := 72) rfl rfl hz63 ci_1 rfl (by omega) (by omega) (fun z64 hz64 => ?_)
        refine h_iast (pc' := 73) rfl rfl rfl rfl hz62 (by omega) (by omega) hz64 ?_
        have Is65 : h_I (h_up s61 101 25 ((s61 101 25) + 1)) := (ip_101_5 Is61 (by omega) (by omega))
        have Fs65 := (Fs61.up (q := 101) (a := 25) (v := ((s61 101 25) + 1)) rfl)
        have es65_0 : h_up s61 101 25 ((s61 101 25) + 1) 98 15 = s61 98 15 := rfl
        have es65_1 : h_up s61 101 25 ((s61 101 25) + 1) 98 16 = s61 98 16 := rfl
        have es65_2 : h_up s61 101 25 ((s61 101 25) + 1) 98 17 = s61 98 17 := rfl
        have es65_3 : h_up s61 101 25 ((s61 101 25) + 1) 98 18 = s61 98 18 := rfl
        have es65_4 : h_up s61 101 25 ((s61 101 25) + 1) 98 13 = s61 98 13 := rfl
        have es65_5 : h_up s61 101 25 ((s61 101 25) + 1) 101 25 = ((s61 101 25) + 1) := rfl
        generalize h_up s61 101 25 ((s61 101 25) + 1) = s65 at Is65 Fs65 es65_0 es65_1 es65_2 es65_3 es65_4 es65_5 ⊢
        exact h_vret rfl rfl (kk _ Is65 Fs65 (by omega) (by omega))
theorem v_readPlan_l (ns : Nat) (σ : h_S) (hI : h_I σ) {Q : Option Value → h_S → Prop} (kk : ∀ (τ : h_S), h_I τ → h_F k_nt τ σ → (σ 98 15 ≤ τ 98 15) → (¬ σ 98 13 = 0 → ¬ τ 98 13 = 0) → Q none τ) : ∀ n : Nat, (∀ (s0 : h_S), h_I s0 → h_F k_nt s0 σ → (σ 98 15 ≤ s0 98 15) → (¬ σ 98 13 = 0 → ¬ s0 98 13 = 0) → (161 - s0 98 15) * 100 - s0 98 13 * 10 + s0 98 17 + 61 ≤ (n : Int) → h_T g_P (g_Y ns) 152 0 [(0, .ref 98)] [] s0 Q) := by
  intro n
  induction n with
  | zero => exact by intro s0 I0 F0_ ex0 ex1 hm; exfalso; omega
  | succ n ih =>
    intro s0 I0 F0_ ex0 ex1 hm
    refine h_aload_n (pc' := 1) rfl rfl rfl ?_
    refine h_getI (pc' := 4) (v := s0 98 13) rfl rfl rfl rfl rfl rfl (fun z1 hz1 => ?_)
    have tz1 := tf_98_13 I0
    refine h_zne (tg := 167) (pc' := 7) rfl rfl rfl hz1 (fun c2 => ?_) (fun c2 => ?_)
    · exact h_vret rfl rfl (kk _ I0 F0_ (by omega) (by omega))
    · refine h_aload_n (pc' := 8) rfl rfl rfl ?_
      refine h_getI (pc' := 11) (v := s0 98 17) rfl rfl rfl rfl rfl rfl (fun z3 hz3 => ?_)
      have tz3 := tf_98_17 I0
      refine h_iconst (pc' := 12) (x := (Int32.ofInt 2)) rfl rfl rfl ?_
      refine h_cne (tg := 167) (pc' := 15) rfl rfl rfl hz3 ci_2 (fun c4 => ?_) (fun c4 => ?_)
      · exact h_vret rfl rfl (kk _ I0 F0_ (by omega) (by omega))
      · refine h_aload_n (pc' := 16) rfl rfl rfl ?_
        refine h_getR (pc' := 19) rfl rfl rfl rfl rfl ?_
        refine h_bipush (pc' := 21) (x := (Int32.ofInt 43)) rfl rfl cb_43 ?_
        refine h_iald (pc' := 22) (v := s0 101 43) rfl rfl rfl ci_43 (by omega) (by omega) rfl (fun z5 hz5 => ?_)
        have tz5 := ty_101_10 I0 43 (by omega)
        refine h_bipush (pc' := 24) (x := (Int32.ofInt 8)) rfl rfl cb_8 ?_
        refine h_cne (tg := 35) (pc' := 27) rfl rfl rfl hz5 ci_8 (fun c6 => ?_) (fun c6 => ?_)
        · refine h_aload_n (pc' := 36) rfl rfl rfl ?_
          refine h_getI (pc' := 39) (v := s0 98 18) rfl rfl rfl rfl rfl rfl (fun z7 hz7 => ?_)
          have tz7 := tf_98_18 I0
          refine h_bipush (pc' := 41) (x := (Int32.ofInt 10)) rfl rfl cb_10 ?_
          refine h_idiv (pc' := 42) rfl rfl hz7 ci_10 (by omega) (by omega) (fun z8 hz8 => ?_)
          refine h_bipush (pc' := 44) (x := (Int32.ofInt 6)) rfl rfl cb_6 ?_
          refine h_cge (tg := 58) (pc' := 47) rfl rfl rfl hz8 ci_6 (fun c9 => ?_) (fun c9 => ?_)
          · refine h_aload_n (pc' := 59) rfl rfl rfl ?_
            refine h_iconst (pc' := 60) (x := (Int32.ofInt 3)) rfl rfl rfl ?_
            refine h_call (sp := false) (pc' := 63) (M := [(0, .ref 98), (1, .int (Int32.ofInt 3))]) rfl rfl rfl rfl rfl rfl rfl rfl ?_
            refine h_aload_n (pc' := 1) rfl rfl rfl ?_
            refine h_getI (pc' := 4) (v := s0 98 13) rfl rfl rfl rfl rfl rfl (fun z10 hz10 => ?_)
            have tz10 := tf_98_13 I0
            refine h_zne (tg := 20) (pc' := 7) rfl rfl rfl hz10 (fun c11 => absurd c11 (by omega)) (fun c11 => ?_)
            refine h_aload_n (pc' := 8) rfl rfl rfl ?_
            refine h_iload_n (pc' := 9) rfl rfl rfl ?_
            refine h_put (pc' := 12) rfl rfl rfl rfl rfl rfl ci_3 rfl ?_
            have Is12 : h_I (h_up s0 98 13 3) := (if_98_13 I0 (by omega))
            have Fs12 := (F0_.up (q := 98) (a := 13) (v := 3) rfl)
            have es12_0 : h_up s0 98 13 3 98 15 = s0 98 15 := rfl
            have es12_1 : h_up s0 98 13 3 98 16 = s0 98 16 := rfl
            have es12_2 : h_up s0 98 13 3 98 17 = s0 98 17 := rfl
            have es12_3 : h_up s0 98 13 3 98 18 = s0 98 18 := rfl
            have es12_4 : h_up s0 98 13 3 98 13 = 3 := rfl
            have es12_5 : h_up s0 98 13 3 101 43 = s0 101 43 := rfl
            generalize h_up s0 98 13 3 = s12 at Is12 Fs12 es12_0 es12_1 es12_2 es12_3 es12_4 es12_5 ⊢
            refine h_aload_n (pc' := 13) rfl rfl rfl ?_
            refine h_aload_n (pc' := 14) rfl rfl rfl ?_
            refine h_getI (pc' := 17) (v := s12 98 16) rfl rfl rfl rfl rfl rfl (fun z13 hz13 => ?_)
            have tz13 := tf_98_16 Is12
            refine h_put (pc' := 20) rfl rfl rfl rfl rfl rfl hz13 rfl ?_
            have Is14 : h_I (h_up s12 98 14 (s12 98 16)) := (if_98_14 Is12 (h_rgv hz13))
            have Fs14 := (Fs12.up (q := 98) (a := 14) (v := (s12 98 16)) rfl)
            have es14_0 : h_up s12 98 14 (s12 98 16) 98 15 = s12 98 15 := rfl
            have es14_1 : h_up s12 98 14 (s12 98 16) 98 16 = s12 98 16 := rfl
            have es14_2 : h_up s12 98 14 (s12 98 16) 98 17 = s12 98 17 := rfl
            have es14_3 : h_up s12 98 14 (s12 98 16) 98 18 = s12 98 18 := rfl
            have es14_4 : h_up s12 98 14 (s12 98 16) 98 13 = s12 98 13 := rfl
            have es14_5 : h_up s12 98 14 (s12 98 16) 101 43 = s12 101 43 := rfl
            generalize h_up s12 98 14 (s12 98 16) = s14 at Is14 Fs14 es14_0 es14_1 es14_2 es14_3 es14_4 es14_5 ⊢
            refine h_vret rfl rfl (h_Kn ?_)
            refine h_goto (pc' := 0) rfl rfl ?_
            exact h_wk [(0, .ref 98)] ⟨rfl, trivial⟩ (ih _ Is14 Fs14  (by omega) (by omega) (by omega))
          · refine h_aload_n (pc' := 48) rfl rfl rfl ?_
            refine h_getI (pc' := 51) (v := s0 98 18) rfl rfl rfl rfl rfl rfl (fun z15 hz15 => ?_)
            have tz15 := tf_98_18 I0
            refine h_bipush (pc' := 53) (x := (Int32.ofInt 10)) rfl rfl cb_10 ?_
            refine h_irem (pc' := 54) rfl rfl hz15 ci_10 (by omega) (by omega) (fun z16 hz16 => ?_)
            refine h_iconst (pc' := 55) (x := (Int32.ofInt 3)) rfl rfl rfl ?_
            refine h_clt (tg := 66) (pc' := 58) rfl rfl rfl hz16 ci_3 (fun c17 => ?_) (fun c17 => ?_)
            · refine h_aload_n (pc' := 67) rfl rfl rfl ?_
              refine h_aload_n (pc' := 68) rfl rfl rfl ?_
              refine h_getI (pc' := 71) (v := s0 98 18) rfl rfl rfl rfl rfl rfl (fun z18 hz18 => ?_)
              have tz18 := tf_98_18 I0
              refine h_bipush (pc' := 73) (x := (Int32.ofInt 10)) rfl rfl cb_10 ?_
              refine h_idiv (pc' := 74) rfl rfl hz18 ci_10 (by omega) (by omega) (fun z19 hz19 => ?_)
              refine h_aload_n (pc' := 75) rfl rfl rfl ?_
              refine h_getI (pc' := 78) (v := s0 98 8) rfl rfl rfl rfl rfl rfl (fun z20 hz20 => ?_)
              have tz20 := tf_98_8 I0
              refine h_cle (tg := 91) (pc' := 81) rfl rfl rfl hz19 hz20 (fun c21 => ?_) (fun c21 => ?_)
              · refine h_aload_n (pc' := 92) rfl rfl rfl ?_
                refine h_getI (pc' := 95) (v := s0 98 8) rfl rfl rfl rfl rfl rfl (fun z22 hz22 => ?_)
                have tz22 := tf_98_8 I0
                refine h_put (pc' := 98) rfl rfl rfl rfl rfl rfl hz22 rfl ?_
                have Is23 : h_I (h_up s0 98 8 (s0 98 8)) := (if_98_8 I0 (by omega))
                have Fs23 := (F0_.up (q := 98) (a := 8) (v := (s0 98 8)) rfl)
                have es23_0 : h_up s0 98 8 (s0 98 8) 98 15 = s0 98 15 := rfl
                have es23_1 : h_up s0 98 8 (s0 98 8) 98 16 = s0 98 16 := rfl
                have es23_2 : h_up s0 98 8 (s0 98 8) 98 17 = s0 98 17 := rfl
                have es23_3 : h_up s0 98 8 (s0 98 8) 98 18 = s0 98 18 := rfl
                have es23_4 : h_up s0 98 8 (s0 98 8) 98 13 = s0 98 13 := rfl
                have es23_5 : h_up s0 98 8 (s0 98 8) 101 43 = s0 101 43 := rfl
                generalize h_up s0 98 8 (s0 98 8) = s23 at Is23 Fs23 es23_0 es23_1 es23_2 es23_3 es23_4 es23_5 ⊢
                refine h_aload_n (pc' := 99) rfl rfl rfl ?_
                refine h_aload_n (pc' := 100) rfl rfl rfl ?_
                refine h_getI (pc' := 103) (v := s23 98 18) rfl rfl rfl rfl rfl rfl (fun z24 hz24 => ?_)
                have tz24 := tf_98_18 Is23
                refine h_bipush (pc' := 105) (x := (Int32.ofInt 10)) rfl rfl cb_10 ?_
                refine h_irem (pc' := 106) rfl rfl hz24 ci_10 (by omega) (by omega) (fun z25 hz25 => ?_)
                refine h_aload_n (pc' := 107) rfl rfl rfl ?_
                refine h_getI (pc' := 110) (v := s23 98 9) rfl rfl rfl rfl rfl rfl (fun z26 hz26 => ?_)
                have tz26 := tf_98_9 Is23
                refine h_cle (tg := 123) (pc' := 113) rfl rfl rfl hz25 hz26 (fun c27 => ?_) (fun c27 => ?_)
                · refine h_aload_n (pc' := 124) rfl rfl rfl ?_
                  refine h_getI (pc' := 127) (v := s23 98 9) rfl rfl rfl rfl rfl rfl (fun z28 hz28 => ?_)
                  have tz28 := tf_98_9 Is23
                  refine h_put (pc' := 130) rfl rfl rfl rfl rfl rfl hz28 rfl ?_
                  have Is29 : h_I (h_up s23 98 9 (s23 98 9)) := (if_98_9 Is23 (by omega))
                  have Fs29 := (Fs23.up (q := 98) (a := 9) (v := (s23 98 9)) rfl)
                  have es29_0 : h_up s23 98 9 (s23 98 9) 98 15 = s23 98 15 := rfl
                  have es29_1 : h_up s23 98 9 (s23 98 9) 98 16 = s23 98 16 := rfl
                  have es29_2 : h_up s23 98 9 (s23 98 9) 98 17 = s23 98 17 := rfl
                  have es29_3 : h_up s23 98 9 (s23 98 9) 98 18 = s23 98 18 := rfl
                  have es29_4 : h_up s23 98 9 (s23 98 9) 98 13 = s23 98 13 := rfl
                  have es29_5 : h_up s23 98 9 (s23 98 9) 101 43 = s23 101 43 := rfl
                  generalize h_up s23 98 9 (s23 98 9) = s29 at Is29 Fs29 es29_0 es29_1 es29_2 es29_3 es29_4 es29_5 ⊢
                  refine h_aload_n (pc' := 131) rfl rfl rfl ?_
                  refine h_getR (pc' := 134) rfl rfl rfl rfl rfl ?_
                  refine h_bipush (pc' := 136) (x := (Int32.ofInt 35)) rfl rfl cb_35 ?_
                  refine h_aload_n (pc' := 137) rfl rfl rfl ?_
                  refine h_getR (pc' := 140) rfl rfl rfl rfl rfl ?_
                  refine h_bipush (pc' := 142) (x := (Int32.ofInt 43)) rfl rfl cb_43 ?_
                  refine h_iald (pc' := 143) (v := s29 101 43) rfl rfl rfl ci_43 (by omega) (by omega) rfl (fun z30 hz30 => ?_)
                  have tz30 := ty_101_10 Is29 43 (by omega)
                  refine h_iadd (pc' := 144) rfl rfl ci_35 hz30 rfl (by omega) (by omega) (fun z31 hz31 => ?_)
                  refine h_aload_n (pc' := 145) rfl rfl rfl ?_
                  refine h_getI (pc' := 148) (v := s29 98 18) rfl rfl rfl rfl rfl rfl (fun z32 hz32 => ?_)
                  have tz32 := tf_98_18 Is29
                  refine h_iast (pc' := 149) rfl rfl rfl rfl hz31 (by omega) (by omega) hz32 ?_
                  have Is33 : h_I (h_up s29 101 (35 + (s29 101 43)) (s29 98 18)) := (ip_101_9 Is29 (by omega) (by omega))
                  have Fs33 := (Fs29.up (q := 101) (a := (35 + (s29 101 43))) (v := (s29 98 18)) rfl)
                  have es33_0 : h_up s29 101 (35 + (s29 101 43)) (s29 98 18) 98 15 = s29 98 15 := rfl
                  have es33_1 : h_up s29 101 (35 + (s29 101 43)) (s29 98 18) 98 16 = s29 98 16 := rfl
                  have es33_2 : h_up s29 101 (35 + (s29 101 43)) (s29 98 18) 98 17 = s29 98 17 := rfl
                  have es33_3 : h_up s29 101 (35 + (s29 101 43)) (s29 98 18) 98 18 = s29 98 18 := rfl
                  have es33_4 : h_up s29 101 (35 + (s29 101 43)) (s29 98 18) 98 13 = s29 98 13 := rfl
                  have es33_5 := h_up_at (σ := s29) (q := 101) (j := (35 + (s29 101 43))) (v := (s29 98 18)) (i := 43)
                  generalize h_up s29 101 (35 + (s29 101 43)) (s29 98 18) = s33 at Is33 Fs33 es33_0 es33_1 es33_2 es33_3 es33_4 es33_5 ⊢
                  refine h_aload_n (pc' := 150) rfl rfl rfl ?_
                  refine h_getR (pc' := 153) rfl rfl rfl rfl rfl ?_
                  refine h_bipush (pc' := 155) (x := (Int32.ofInt 43)) rfl rfl cb_43 ?_
                  refine h_dup2 (pc' := 156) rfl rfl rfl ?_
                  refine h_iald (pc' := 157) (v := s33 101 43) rfl rfl rfl ci_43 (by omega) (by omega) rfl (fun z34 hz34 => ?_)
                  have tz34 := ty_101_10 Is33 43 (by omega)
                  refine h_iconst (pc' := 158) (x := (Int32.ofInt 1)) rfl rfl rfl ?_
                  refine h_iadd (pc' := 159) rfl rfl hz34 ci_1 rfl (by omega) (by omega) (fun z35 hz35 => ?_)
                  refine h_iast (pc' := 160) rfl rfl rfl rfl ci_43 (by omega) (by omega) hz35 ?_
                  have Is36 : h_I (h_up s33 101 43 ((s33 101 43) + 1)) := (ip_101_10 Is33 (by omega) (by omega))
                  have Fs36 := (Fs33.up (q := 101) (a := 43) (v := ((s33 101 43) + 1)) rfl)
                  have es36_0 : h_up s33 101 43 ((s33 101 43) + 1) 98 15 = s33 98 15 := rfl
                  have es36_1 : h_up s33 101 43 ((s33 101 43) + 1) 98 16 = s33 98 16 := rfl
                  have es36_2 : h_up s33 101 43 ((s33 101 43) + 1) 98 17 = s33 98 17 := rfl
                  have es36_3 : h_up s33 101 43 ((s33 101 43) + 1) 98 18 = s33 98 18 := rfl
                  have es36_4 : h_up s33 101 43 ((s33 101 43) + 1) 98 13 = s33 98 13 := rfl
                  have es36_5 : h_up s33 101 43 ((s33 101 43) + 1) 101 43 = ((s33 101 43) + 1) := rfl
                  generalize h_up s33 101 43 ((s33 101 43) + 1) = s36 at Is36 Fs36 es36_0 es36_1 es36_2 es36_3 es36_4 es36_5 ⊢
                  refine h_aload_n (pc' := 161) rfl rfl rfl ?_
                  refine h_call (sp := false) (pc' := 164) (M := [(0, .ref 98)]) rfl rfl rfl rfl rfl rfl rfl rfl ?_
                  refine v_step _ Is36  (fun s38 Is38 Gs38 ps38_0 ps38_1 ps38_2 => h_Kn ?_)
                  have Fs38 := (Gs38.l1).tr Fs36
                  have es38_5 : s38 101 43 = s36 101 43 := Gs38 101 43 rfl
                  refine h_goto (pc' := 0) rfl rfl ?_
                  exact h_wk [(0, .ref 98)] ⟨rfl, trivial⟩ (ih _ Is38 Fs38  (by omega) (by omega) (by omega))
                · refine h_aload_n (pc' := 114) rfl rfl rfl ?_
                  refine h_getI (pc' := 117) (v := s23 98 18) rfl rfl rfl rfl rfl rfl (fun z39 hz39 => ?_)
                  have tz39 := tf_98_18 Is23
                  refine h_bipush (pc' := 119) (x := (Int32.ofInt 10)) rfl rfl cb_10 ?_
                  refine h_irem (pc' := 120) rfl rfl hz39 ci_10 (by omega) (by omega) (fun z40 hz40 => ?_)
                  refine h_goto (pc' := 127) rfl rfl ?_
                  refine h_put (pc' := 130) rfl rfl rfl rfl rfl rfl hz40 rfl ?_
                  have Is41 : h_I (h_up s23 98 9 ((s23 98 18) % 10)) := (if_98_9 Is23 (by omega))
                  have Fs41 := (Fs23.up (q := 98) (a := 9) (v := ((s23 98 18) % 10)) rfl)
                  have es41_0 : h_up s23 98 9 ((s23 98 18) % 10) 98 15 = s23 98 15 := rfl
                  have es41_1 : h_up s23 98 9 ((s23 98 18) % 10) 98 16 = s23 98 16 := rfl
                  have es41_2 : h_up s23 98 9 ((s23 98 18) % 10) 98 17 = s23 98 17 := rfl
                  have es41_3 : h_up s23 98 9 ((s23 98 18) % 10) 98 18 = s23 98 18 := rfl
                  have es41_4 : h_up s23 98 9 ((s23 98 18) % 10) 98 13 = s23 98 13 := rfl
                  have es41_5 : h_up s23 98 9 ((s23 98 18) % 10) 101 43 = s23 101 43 := rfl
                  generalize h_up s23 98 9 ((s23 98 18) % 10) = s41 at Is41 Fs41 es41_0 es41_1 es41_2 es41_3 es41_4 es41_5 ⊢
                  refine h_aload_n (pc' := 131) rfl rfl rfl ?_
                  refine h_getR (pc' := 134) rfl rfl rfl rfl rfl ?_
                  refine h_bipush (pc' := 136) (x := (Int32.ofInt 35)) rfl rfl cb_35 ?_
                  refine h_aload_n (pc' := 137) rfl rfl rfl ?_
                  refine h_getR (pc' := 140) rfl rfl rfl rfl rfl ?_
                  refine h_bipush (pc' := 142) (x := (Int32.ofInt 43)) rfl rfl cb_43 ?_
                  refine h_iald (pc' := 143) (v := s41 101 43) rfl rfl rfl ci_43 (by omega) (by omega) rfl (fun z42 hz42 => ?_)
                  have tz42 := ty_101_10 Is41 43 (by omega)
                  refine h_iadd (pc' := 144) rfl rfl ci_35 hz42 rfl (by omega) (by omega) (fun z43 hz43 => ?_)
                  refine h_aload_n (pc' := 145) rfl rfl rfl ?_
                  refine h_getI (pc' := 148) (v := s41 98 18) rfl rfl rfl rfl rfl rfl (fun z44 hz44 => ?_)
                  have tz44 := tf_98_18 Is41
                  refine h_iast (pc' := 149) rfl rfl rfl rfl hz43 (by omega) (by omega) hz44 ?_
                  have Is45 : h_I (h_up s41 101 (35 + (s41 101 43)) (s41 98 18)) := (ip_101_9 Is41 (by omega) (by omega))
                  have Fs45 := (Fs41.up (q := 101) (a := (35 + (s41 101 43))) (v := (s41 98 18)) rfl)
                  have es45_0 : h_up s41 101 (35 + (s41 101 43)) (s41 98 18) 98 15 = s41 98 15 := rfl
                  have es45_1 : h_up s41 101 (35 + (s41 101 43)) (s41 98 18) 98 16 = s41 98 16 := rfl
                  have es45_2 : h_up s41 101 (35 + (s41 101 43)) (s41 98 18) 98 17 = s41 98 17 := rfl
                  have es45_3 : h_up s41 101 (35 + (s41 101 43)) (s41 98 18) 98 18 = s41 98 18 := rfl
                  have es45_4 : h_up s41 101 (35 + (s41 101 43)) (s41 98 18) 98 13 = s41 98 13 := rfl
                  have es45_5 := h_up_at (σ := s41) (q := 101) (j := (35 + (s41 101 43))) (v := (s41 98 18)) (i := 43)
                  generalize h_up s41 101 (35 + (s41 101 43)) (s41 98 18) = s45 at Is45 Fs45 es45_0 es45_1 es45_2 es45_3 es45_4 es45_5 ⊢
                  refine h_aload_n (pc' := 150) rfl rfl rfl ?_
                  refine h_getR (pc' := 153) rfl rfl rfl rfl rfl ?_
                  refine h_bipush (pc' := 155) (x := (Int32.ofInt 43)) rfl rfl cb_43 ?_
                  refine h_dup2 (pc' := 156) rfl rfl rfl ?_
                  refine h_iald (pc' := 157) (v := s45 101 43) rfl rfl rfl ci_43 (by omega) (by omega) rfl (fun z46 hz46 => ?_)
                  have tz46 := ty_101_10 Is45 43 (by omega)
                  refine h_iconst (pc' := 158) (x := (Int32.ofInt 1)) rfl rfl rfl ?_
                  refine h_iadd (pc' := 159) rfl rfl hz46 ci_1 rfl (by omega) (by omega) (fun z47 hz47 => ?_)
                  refine h_iast (pc' := 160) rfl rfl rfl rfl ci_43 (by omega) (by omega) hz47 ?_
                  have Is48 : h_I (h_up s45 101 43 ((s45 101 43) + 1)) := (ip_101_10 Is45 (by omega) (by omega))
                  have Fs48 := (Fs45.up (q := 101) (a := 43) (v := ((s45 101 43) + 1)) rfl)
                  have es48_0 : h_up s45 101 43 ((s45 101 43) + 1) 98 15 = s45 98 15 := rfl
                  have es48_1 : h_up s45 101 43 ((s45 101 43) + 1) 98 16 = s45 98 16 := rfl
                  have es48_2 : h_up s45 101 43 ((s45 101 43) + 1) 98 17 = s45 98 17 := rfl
                  have es48_3 : h_up s45 101 43 ((s45 101 43) + 1) 98 18 = s45 98 18 := rfl
                  have es48_4 : h_up s45 101 43 ((s45 101 43) + 1) 98 13 = s45 98 13 := rfl
                  have es48_5 : h_up s45 101 43 ((s45 101 43) + 1) 101 43 = ((s45 101 43) + 1) := rfl
                  generalize h_up s45 101 43 ((s45 101 43) + 1) = s48 at Is48 Fs48 es48_0 es48_1 es48_2 es48_3 es48_4 es48_5 ⊢
                  refine h_aload_n (pc' := 161) rfl rfl rfl ?_
                  refine h_call (sp := false) (pc' := 164) (M := [(0, .ref 98)]) rfl rfl rfl rfl rfl rfl rfl rfl ?_
                  refine v_step _ Is48  (fun s50 Is50 Gs50 ps50_0 ps50_1 ps50_2 => h_Kn ?_)
                  have Fs50 := (Gs50.l1).tr Fs48
                  have es50_5 : s50 101 43 = s48 101 43 := Gs50 101 43 rfl
                  refine h_goto (pc' := 0) rfl rfl ?_
                  exact h_wk [(0, .ref 98)] ⟨rfl, trivial⟩ (ih _ Is50 Fs50  (by omega) (by omega) (by omega))
              · refine h_aload_n (pc' := 82) rfl rfl rfl ?_
                refine h_getI (pc' := 85) (v := s0 98 18) rfl rfl rfl rfl rfl rfl (fun z51 hz51 => ?_)
                have tz51 := tf_98_18 I0
                refine h_bipush (pc' := 87) (x := (Int32.ofInt 10)) rfl rfl cb_10 ?_
                refine h_idiv (pc' := 88) rfl rfl hz51 ci_10 (by omega) (by omega) (fun z52 hz52 => ?_)
                refine h_goto (pc' := 95) rfl rfl ?_
                refine h_put (pc' := 98) rfl rfl rfl rfl rfl rfl hz52 rfl ?_
                have Is53 : h_I (h_up s0 98 8 ((s0 98 18) / 10)) := (if_98_8 I0 (by omega))
                have Fs53 := (F0_.up (q := 98) (a := 8) (v := ((s0 98 18) / 10)) rfl)
                have es53_0 : h_up s0 98 8 ((s0 98 18) / 10) 98 15 = s0 98 15 := rfl
                have es53_1 : h_up s0 98 8 ((s0 98 18) / 10) 98 16 = s0 98 16 := rfl
                have es53_2 : h_up s0 98 8 ((s0 98 18) / 10) 98 17 = s0 98 17 := rfl
                have es53_3 : h_up s0 98 8 ((s0 98 18) / 10) 98 18 = s0 98 18 := rfl
                have es53_4 : h_up s0 98 8 ((s0 98 18) / 10) 98 13 = s0 98 13 := rfl
                have es53_5 : h_up s0 98 8 ((s0 98 18) / 10) 101 43 = s0 101 43 := rfl
                generalize h_up s0 98 8 ((s0 98 18) / 10) = s53 at Is53 Fs53 es53_0 es53_1 es53_2 es53_3 es53_4 es53_5 ⊢
                refine h_aload_n (pc' := 99) rfl rfl rfl ?_
                refine h_aload_n (pc' := 100) rfl rfl rfl ?_
                refine h_getI (pc' := 103) (v := s53 98 18) rfl rfl rfl rfl rfl rfl (fun z54 hz54 => ?_)
                have tz54 := tf_98_18 Is53
                refine h_bipush (pc' := 105) (x := (Int32.ofInt 10)) rfl rfl cb_10 ?_
                refine h_irem (pc' := 106) rfl rfl hz54 ci_10 (by omega) (by omega) (fun z55 hz55 => ?_)
                refine h_aload_n (pc' := 107) rfl rfl rfl ?_
                refine h_getI (pc' := 110) (v := s53 98 9) rfl rfl rfl rfl rfl rfl (fun z56 hz56 => ?_)
                have tz56 := tf_98_9 Is53
                refine h_cle (tg := 123) (pc' := 113) rfl rfl rfl hz55 hz56 (fun c57 => ?_) (fun c57 => ?_)
                · refine h_aload_n (pc' := 124) rfl rfl rfl ?_
                  refine h_getI (pc' := 127) (v := s53 98 9) rfl rfl rfl rfl rfl rfl (fun z58 hz58 => ?_)
                  have tz58 := tf_98_9 Is53
                  refine h_put (pc' := 130) rfl rfl rfl rfl rfl rfl hz58 rfl ?_
                  have Is59 : h_I (h_up s53 98 9 (s53 98 9)) := (if_98_9 Is53 (by omega))
                  have Fs59 := (Fs53.up (q := 98) (a := 9) (v := (s53 98 9)) rfl)
                  have es59_0 : h_up s53 98 9 (s53 98 9) 98 15 = s53 98 15 := rfl
                  have es59_1 : h_up s53 98 9 (s53 98 9) 98 16 = s53 98 16 := rfl
                  have es59_2 : h_up s53 98 9 (s53 98 9) 98 17 = s53 98 17 := rfl
                  have es59_3 : h_up s53 98 9 (s53 98 9) 98 18 = s53 98 18 := rfl
                  have es59_4 : h_up s53 98 9 (s53 98 9) 98 13 = s53 98 13 := rfl
                  have es59_5 : h_up s53 98 9 (s53 98 9) 101 43 = s53 101 43 := rfl
                  generalize h_up s53 98 9 (s53 98 9) = s59 at Is59 Fs59 es59_0 es59_1 es59_2 es59_3 es59_4 es59_5 ⊢
                  refine h_aload_n (pc' := 131) rfl rfl rfl ?_
                  refine h_getR (pc' := 134) rfl rfl rfl rfl rfl ?_
                  refine h_bipush (pc' := 136) (x := (Int32.ofInt 35)) rfl rfl cb_35 ?_
                  refine h_aload_n (pc' := 137) rfl rfl rfl ?_
                  refine h_getR (pc' := 140) rfl rfl rfl rfl rfl ?_
                  refine h_bipush (pc' := 142) (x := (Int32.ofInt 43)) rfl rfl cb_43 ?_
                  refine h_iald (pc' := 143) (v := s59 101 43) rfl rfl rfl ci_43 (by omega) (by omega) rfl (fun z60 hz60 => ?_)
                  have tz60 := ty_101_10 Is59 43 (by omega)
                  refine h_iadd (pc' := 144) rfl rfl ci_35 hz60 rfl (by omega) (by omega) (fun z61 hz61 => ?_)
                  refine h_aload_n (pc' := 145) rfl rfl rfl ?_
                  refine h_getI (pc' := 148) (v := s59 98 18) rfl rfl rfl rfl rfl rfl (fun z62 hz62 => ?_)
                  have tz62 := tf_98_18 Is59
                  refine h_iast (pc' := 149) rfl rfl rfl rfl hz61 (by omega) (by omega) hz62 ?_
                  have Is63 : h_I (h_up s59 101 (35 + (s59 101 43)) (s59 98 18)) := (ip_101_9 Is59 (by omega) (by omega))
                  have Fs63 := (Fs59.up (q := 101) (a := (35 + (s59 101 43))) (v := (s59 98 18)) rfl)
                  have es63_0 : h_up s59 101 (35 + (s59 101 43)) (s59 98 18) 98 15 = s59 98 15 := rfl
                  have es63_1 : h_up s59 101 (35 + (s59 101 43)) (s59 98 18) 98 16 = s59 98 16 := rfl
                  have es63_2 : h_up s59 101 (35 + (s59 101 43)) (s59 98 18) 98 17 = s59 98 17 := rfl
                  have es63_3 : h_up s59 101 (35 + (s59 101 43)) (s59 98 18) 98 18 = s59 98 18 := rfl
                  have es63_4 : h_up s59 101 (35 + (s59 101 43)) (s59 98 18) 98 13 = s59 98 13 := rfl
                  have es63_5 := h_up_at (σ := s59) (q := 101) (j := (35 + (s59 101 43))) (v := (s59 98 18)) (i := 43)
                  generalize h_up s59 101 (35 + (s59 101 43)) (s59 98 18) = s63 at Is63 Fs63 es63_0 es63_1 es63_2 es63_3 es63_4 es63_5 ⊢
                  refine h_aload_n (pc' := 150) rfl rfl rfl ?_
                  refine h_getR (pc' := 153) rfl rfl rfl rfl rfl ?_
                  refine h_bipush (pc' := 155) (x := (Int32.ofInt 43)) rfl rfl cb_43 ?_
                  refine h_dup2 (pc' := 156) rfl rfl rfl ?_
                  refine h_iald (pc' := 157) (v := s63 101 43) rfl rfl rfl ci_43 (by omega) (by omega) rfl (fun z64 hz64 => ?_)
                  have tz64 := ty_101_10 Is63 43 (by omega)
                  refine h_iconst (pc' := 158) (x := (Int32.ofInt 1)) rfl rfl rfl ?_
                  refine h_iadd (pc' := 159) rfl rfl hz64 ci_1 rfl (by omega) (by omega) (fun z65 hz65 => ?_)
                  refine h_iast (pc' := 160) rfl rfl rfl rfl ci_43 (by omega) (by omega) hz65 ?_
                  have Is66 : h_I (h_up s63 101 43 ((s63 101 43) + 1)) := (ip_101_10 Is63 (by omega) (by omega))
                  have Fs66 := (Fs63.up (q := 101) (a := 43) (v := ((s63 101 43) + 1)) rfl)
                  have es66_0 : h_up s63 101 43 ((s63 101 43) + 1) 98 15 = s63 98 15 := rfl
                  have es66_1 : h_up s63 101 43 ((s63 101 43) + 1) 98 16 = s63 98 16 := rfl
                  have es66_2 : h_up s63 101 43 ((s63 101 43) + 1) 98 17 = s63 98 17 := rfl
                  have es66_3 : h_up s63 101 43 ((s63 101 43) + 1) 98 18 = s63 98 18 := rfl
                  have es66_4 : h_up s63 101 43 ((s63 101 43) + 1) 98 13 = s63 98 13 := rfl
                  have es66_5 : h_up s63 101 43 ((s63 101 43) + 1) 101 43 = ((s63 101 43) + 1) := rfl
                  generalize h_up s63 101 43 ((s63 101 43) + 1) = s66 at Is66 Fs66 es66_0 es66_1 es66_2 es66_3 es66_4 es66_5 ⊢
                  refine h_aload_n (pc' := 161) rfl rfl rfl ?_
                  refine h_call (sp := false) (pc' := 164) (M := [(0, .ref 98)]) rfl rfl rfl rfl rfl rfl rfl rfl ?_
                  refine v_step _ Is66  (fun s68 Is68 Gs68 ps68_0 ps68_1 ps68_2 => h_Kn ?_)
                  have Fs68 := (Gs68.l1).tr Fs66
                  have es68_5 : s68 101 43 = s66 101 43 := Gs68 101 43 rfl
                  refine h_goto (pc' := 0) rfl rfl ?_
                  exact h_wk [(0, .ref 98)] ⟨rfl, trivial⟩ (ih _ Is68 Fs68  (by omega) (by omega) (by omega))
                · refine h_aload_n (pc' := 114) rfl rfl rfl ?_
                  refine h_getI (pc' := 117) (v := s53 98 18) rfl rfl rfl rfl rfl rfl (fun z69 hz69 => ?_)
                  have tz69 := tf_98_18 Is53
                  refine h_bipush (pc' := 119) (x := (Int32.ofInt 10)) rfl rfl cb_10 ?_
                  refine h_irem (pc' := 120) rfl rfl hz69 ci_10 (by omega) (by omega) (fun z70 hz70 => ?_)
                  refine h_goto (pc' := 127) rfl rfl ?_
                  refine h_put (pc' := 130) rfl rfl rfl rfl rfl rfl hz70 rfl ?_
                  have Is71 : h_I (h_up s53 98 9 ((s53 98 18) % 10)) := (if_98_9 Is53 (by omega))
                  have Fs71 := (Fs53.up (q := 98) (a := 9) (v := ((s53 98 18) % 10)) rfl)
                  have es71_0 : h_up s53 98 9 ((s53 98 18) % 10) 98 15 = s53 98 15 := rfl
                  have es71_1 : h_up s53 98 9 ((s53 98 18) % 10) 98 16 = s53 98 16 := rfl
                  have es71_2 : h_up s53 98 9 ((s53 98 18) % 10) 98 17 = s53 98 17 := rfl
                  have es71_3 : h_up s53 98 9 ((s53 98 18) % 10) 98 18 = s53 98 18 := rfl
                  have es71_4 : h_up s53 98 9 ((s53 98 18) % 10) 98 13 = s53 98 13 := rfl
                  have es71_5 : h_up s53 98 9 ((s53 98 18) % 10) 101 43 = s53 101 43 := rfl
                  generalize h_up s53 98 9 ((s53 98 18) % 10) = s71 at Is71 Fs71 es71_0 es71_1 es71_2 es71_3 es71_4 es71_5 ⊢
                  refine h_aload_n (pc' := 131) rfl rfl rfl ?_
                  refine h_getR (pc' := 134) rfl rfl rfl rfl rfl ?_
                  refine h_bipush (pc' := 136) (x := (Int32.ofInt 35)) rfl rfl cb_35 ?_
                  refine h_aload_n (pc' := 137) rfl rfl rfl ?_
                  refine h_getR (pc' := 140) rfl rfl rfl rfl rfl ?_
                  refine h_bipush (pc' := 142) (x := (Int32.ofInt 43)) rfl rfl cb_43 ?_
                  refine h_iald (pc' := 143) (v := s71 101 43) rfl rfl rfl ci_43 (by omega) (by omega) rfl (fun z72 hz72 => ?_)
                  have tz72 := ty_101_10 Is71 43 (by omega)
                  refine h_iadd (pc' := 144) rfl rfl ci_35 hz72 rfl (by omega) (by omega) (fun z73 hz73 => ?_)
                  refine h_aload_n (pc' := 145) rfl rfl rfl ?_
                  refine h_getI (pc' := 148) (v := s71 98 18) rfl rfl rfl rfl rfl rfl (fun z74 hz74 => ?_)
                  have tz74 := tf_98_18 Is71
                  refine h_iast (pc' := 149) rfl rfl rfl rfl hz73 (by omega) (by omega) hz74 ?_
                  have Is75 : h_I (h_up s71 101 (35 + (s71 101 43)) (s71 98 18)) := (ip_101_9 Is71 (by omega) (by omega))
                  have Fs75 := (Fs71.up (q := 101) (a := (35 + (s71 101 43))) (v := (s71 98 18)) rfl)
                  have es75_0 : h_up s71 101 (35 + (s71 101 43)) (s71 98 18) 98 15 = s71 98 15 := rfl
                  have es75_1 : h_up s71 101 (35 + (s71 101 43)) (s71 98 18) 98 16 = s71 98 16 := rfl
                  have es75_2 : h_up s71 101 (35 + (s71 101 43)) (s71 98 18) 98 17 = s71 98 17 := rfl
                  have es75_3 : h_up s71 101 (35 + (s71 101 43)) (s71 98 18) 98 18 = s71 98 18 := rfl
                  have es75_4 : h_up s71 101 (35 + (s71 101 43)) (s71 98 18) 98 13 = s71 98 13 := rfl
                  have es75_5 := h_up_at (σ := s71) (q := 101) (j := (35 + (s71 101 43))) (v := (s71 98 18)) (i := 43)
                  generalize h_up s71 101 (35 + (s71 101 43)) (s71 98 18) = s75 at Is75 Fs75 es75_0 es75_1 es75_2 es75_3 es75_4 es75_5 ⊢
                  refine h_aload_n (pc' := 150) rfl rfl rfl ?_
                  refine h_getR (pc' := 153) rfl rfl rfl rfl rfl ?_
                  refine h_bipush (pc' := 155) (x := (Int32.ofInt 43)) rfl rfl cb_43 ?_
                  refine h_dup2 (pc' := 156) rfl rfl rfl ?_
                  refine h_iald (pc' := 157) (v := s75 101 43) rfl rfl rfl ci_43 (by omega) (by omega) rfl (fun z76 hz76 => ?_)
                  have tz76 := ty_101_10 Is75 43 (by omega)
                  refine h_iconst (pc' := 158) (x := (Int32.ofInt 1)) rfl rfl rfl ?_
                  refine h_iadd (pc' := 159) rfl rfl hz76 ci_1 rfl (by omega) (by omega) (fun z77 hz77 => ?_)
                  refine h_iast (pc' := 160) rfl rfl rfl rfl ci_43 (by omega) (by omega) hz77 ?_
                  have Is78 : h_I (h_up s75 101 43 ((s75 101 43) + 1)) := (ip_101_10 Is75 (by omega) (by omega))
                  have Fs78 := (Fs75.up (q := 101) (a := 43) (v := ((s75 101 43) + 1)) rfl)
                  have es78_0 : h_up s75 101 43 ((s75 101 43) + 1) 98 15 = s75 98 15 := rfl
                  have es78_1 : h_up s75 101 43 ((s75 101 43) + 1) 98 16 = s75 98 16 := rfl
                  have es78_2 : h_up s75 101 43 ((s75 101 43) + 1) 98 17 = s75 98 17 := rfl
                  have es78_3 : h_up s75 101 43 ((s75 101 43) + 1) 98 18 = s75 98 18 := rfl
                  have es78_4 : h_up s75 101 43 ((s75 101 43) + 1) 98 13 = s75 98 13 := rfl
                  have es78_5 : h_up s75 101 43 ((s75 101 43) + 1) 101 43 = ((s75 101 43) + 1) := rfl
                  generalize h_up s75 101 43 ((s75 101 43) + 1) = s78 at Is78 Fs78 es78_0 es78_1 es78_2 es78_3 es78_4 es78_5 ⊢
                  refine h_aload_n (pc' := 161) rfl rfl rfl ?_
                  refine h_call (sp := false) (pc' := 164) (M := [(0, .ref 98)]) rfl rfl rfl rfl rfl rfl rfl rfl ?_
                  refine v_step _ Is78  (fun s80 Is80 Gs80 ps80_0 ps80_1 ps80_2 => h_Kn ?_)
                  have Fs80 := (Gs80.l1).tr Fs78
                  have es80_5 : s80 101 43 = s78 101 43 := Gs80 101 43 rfl
                  refine h_goto (pc' := 0) rfl rfl ?_
                  exact h_wk [(0, .ref 98)] ⟨rfl, trivial⟩ (ih _ Is80 Fs80  (by omega) (by omega) (by omega))
            · refine h_aload_n (pc' := 59) rfl rfl rfl ?_
              refine h_iconst (pc' := 60) (x := (Int32.ofInt 3)) rfl rfl rfl ?_
              refine h_call (sp := false) (pc' := 63) (M := [(0, .ref 98), (1, .int (Int32.ofInt 3))]) rfl rfl rfl rfl rfl rfl rfl rfl ?_
              refine h_aload_n (pc' := 1) rfl rfl rfl ?_
              refine h_getI (pc' := 4) (v := s0 98 13) rfl rfl rfl rfl rfl rfl (fun z81 hz81 => ?_)
              have tz81 := tf_98_13 I0
              refine h_zne (tg := 20) (pc' := 7) rfl rfl rfl hz81 (fun c82 => absurd c82 (by omega)) (fun c82 => ?_)
              refine h_aload_n (pc' := 8) rfl rfl rfl ?_
              refine h_iload_n (pc' := 9) rfl rfl rfl ?_
              refine h_put (pc' := 12) rfl rfl rfl rfl rfl rfl ci_3 rfl ?_
              have Is83 : h_I (h_up s0 98 13 3) := (if_98_13 I0 (by omega))
              have Fs83 := (F0_.up (q := 98) (a := 13) (v := 3) rfl)
              have es83_0 : h_up s0 98 13 3 98 15 = s0 98 15 := rfl
              have es83_1 : h_up s0 98 13 3 98 16 = s0 98 16 := rfl
              have es83_2 : h_up s0 98 13 3 98 17 = s0 98 17 := rfl
              have es83_3 : h_up s0 98 13 3 98 18 = s0 98 18 := rfl
              have es83_4 : h_up s0 98 13 3 98 13 = 3 := rfl
              have es83_5 : h_up s0 98 13 3 101 43 = s0 101 43 := rfl
              generalize h_up s0 98 13 3 = s83 at Is83 Fs83 es83_0 es83_1 es83_2 es83_3 es83_4 es83_5 ⊢
              refine h_aload_n (pc' := 13) rfl rfl rfl ?_
              refine h_aload_n (pc' := 14) rfl rfl rfl ?_
              refine h_getI (pc' := 17) (v := s83 98 16) rfl rfl rfl rfl rfl rfl (fun z84 hz84 => ?_)
              have tz84 := tf_98_16 Is83
              refine h_put (pc' := 20) rfl rfl rfl rfl rfl rfl hz84 rfl ?_
              have Is85 : h_I (h_up s83 98 14 (s83 98 16)) := (if_98_14 Is83 (h_rgv hz84))
              have Fs85 := (Fs83.up (q := 98) (a := 14) (v := (s83 98 16)) rfl)
              have es85_0 : h_up s83 98 14 (s83 98 16) 98 15 = s83 98 15 := rfl
              have es85_1 : h_up s83 98 14 (s83 98 16) 98 16 = s83 98 16 := rfl
              have es85_2 : h_up s83 98 14 (s83 98 16) 98 17 = s83 98 17 := rfl
              have es85_3 : h_up s83 98 14 (s83 98 16) 98 18 = s83 98 18 := rfl
              have es85_4 : h_up s83 98 14 (s83 98 16) 98 13 = s83 98 13 := rfl
              have es85_5 : h_up s83 98 14 (s83 98 16) 101 43 = s83 101 43 := rfl
              generalize h_up s83 98 14 (s83 98 16) = s85 at Is85 Fs85 es85_0 es85_1 es85_2 es85_3 es85_4 es85_5 ⊢
              refine h_vret rfl rfl (h_Kn ?_)
              refine h_goto (pc' := 0) rfl rfl ?_
              exact h_wk [(0, .ref 98)] ⟨rfl, trivial⟩ (ih _ Is85 Fs85  (by omega) (by omega) (by omega))
        · refine h_aload_n (pc' := 28) rfl rfl rfl ?_
          refine h_iconst (pc' := 29) (x := (Int32.ofInt 5)) rfl rfl rfl ?_
          refine h_call (sp := false) (pc' := 32) (M := [(0, .ref 98), (1, .int (Int32.ofInt 5))]) rfl rfl rfl rfl rfl rfl rfl rfl ?_
          refine h_aload_n (pc' := 1) rfl rfl rfl ?_
          refine h_getI (pc' := 4) (v := s0 98 13) rfl rfl rfl rfl rfl rfl (fun z86 hz86 => ?_)
          have tz86 := tf_98_13 I0
          refine h_zne (tg := 20) (pc' := 7) rfl rfl rfl hz86 (fun c87 => absurd c87 (by omega)) (fun c87 => ?_)
          refine h_aload_n (pc' := 8) rfl rfl rfl ?_
          refine h_iload_n (pc' := 9) rfl rfl rfl ?_
          refine h_put (pc' := 12) rfl rfl rfl rfl rfl rfl ci_5 rfl ?_
          have Is88 : h_I (h_up s0 98 13 5) := (if_98_13 I0 (by omega))
          have Fs88 := (F0_.up (q := 98) (a := 13) (v := 5) rfl)
          have es88_0 : h_up s0 98 13 5 98 15 = s0 98 15 := rfl
          have es88_1 : h_up s0 98 13 5 98 16 = s0 98 16 := rfl
          have es88_2 : h_up s0 98 13 5 98 17 = s0 98 17 := rfl
          have es88_3 : h_up s0 98 13 5 98 18 = s0 98 18 := rfl
          have es88_4 : h_up s0 98 13 5 98 13 = 5 := rfl
          have es88_5 : h_up s0 98 13 5 101 43 = s0 101 43 := rfl
          generalize h_up s0 98 13 5 = s88 at Is88 Fs88 es88_0 es88_1 es88_2 es88_3 es88_4 es88_5 ⊢
          refine h_aload_n (pc' := 13) rfl rfl rfl ?_
          refine h_aload_n (pc' := 14) rfl rfl rfl ?_
          refine h_getI (pc' := 17) (v := s88 98 16) rfl rfl rfl rfl rfl rfl (fun z89 hz89 => ?_)
          have tz89 := tf_98_16 Is88
          refine h_put (pc' := 20) rfl rfl rfl rfl rfl rfl hz89 rfl ?_
          have Is90 : h_I (h_up s88 98 14 (s88 98 16)) := (if_98_14 Is88 (h_rgv hz89))
          have Fs90 := (Fs88.up (q := 98) (a := 14) (v := (s88 98 16)) rfl)
          have es90_0 : h_up s88 98 14 (s88 98 16) 98 15 = s88 98 15 := rfl
          have es90_1 : h_up s88 98 14 (s88 98 16) 98 16 = s88 98 16 := rfl
          have es90_2 : h_up s88 98 14 (s88 98 16) 98 17 = s88 98 17 := rfl
          have es90_3 : h_up s88 98 14 (s88 98 16) 98 18 = s88 98 18 := rfl
          have es90_4 : h_up s88 98 14 (s88 98 16) 98 13 = s88 98 13 := rfl
          have es90_5 : h_up s88 98 14 (s88 98 16) 101 43 = s88 101 43 := rfl
          generalize h_up s88 98 14 (s88 98 16) = s90 at Is90 Fs90 es90_0 es90_1 es90_2 es90_3 es90_4 es90_5 ⊢
          refine h_vret rfl rfl (h_Kn ?_)
          refine h_goto (pc' := 0) rfl rfl ?_
          exact h_wk [(0, .ref 98)] ⟨rfl, trivial⟩ (ih _ Is90 Fs90  (by omega) (by omega) (by omega))
theorem v_readPlan {ns : Nat} (σ : h_S) (hI : h_I σ) {Q : Option Value → h_S → Prop} (kk : ∀ (τ : h_S), h_I τ → h_F k_nt τ σ → (σ 98 15 ≤ τ 98 15) → (¬ σ 98 13 = 0 → ¬ τ 98 13 = 0) → Q none τ) : h_T g_P (g_Y ns) 152 0 [(0, .ref 98)] [] σ Q := by
  have F00 : h_F k_nt σ σ := h_F.rf
  exact h_wk [(0, .ref 98)] ⟨rfl, trivial⟩ ((v_readPlan_l ns σ hI  kk 1000000000000) _ hI F00  (by omega) (by omega) (by omega))
theorem v_readMore {ns : Nat} (σ : h_S) (hI : h_I σ) (x0 : Int32) (a0 : Int) (hx0 : x0.toInt = a0) (ra0 : 0 ≤ a0 ∧ a0 ≤ 7) (pr0 : a0 ≤ 3 → σ 98 5 ≤ 5) (pr1 : a0 = 4 → σ 101 18 ≤ 2) (pr2 : a0 = 5 → σ 101 25 ≤ 2) (pr3 : a0 = 6 → σ 98 6 ≤ 2) {Q : Option Value → h_S → Prop} (kk : ∀ (τ : h_S), h_I τ → h_F k_nt τ σ → (σ 98 15 ≤ τ 98 15) → (¬ σ 98 13 = 0 → ¬ τ 98 13 = 0) → Q none τ) : h_T g_P (g_Y ns) 153 0 [(0, .ref 98), (1, .int x0)] [] σ Q := by
  have F00 : h_F k_nt σ σ := h_F.rf
  refine h_iload_n (pc' := 1) rfl rfl rfl ?_
  refine h_iconst (pc' := 2) (x := (Int32.ofInt 3)) rfl rfl rfl ?_
  refine h_cgt (tg := 61) (pc' := 5) rfl rfl rfl hx0 ci_3 (fun c1 => ?_) (fun c1 => ?_)
  · refine h_iload_n (pc' := 62) rfl rfl rfl ?_
    refine h_iconst (pc' := 63) (x := (Int32.ofInt 4)) rfl rfl rfl ?_
    refine h_cne (tg := 82) (pc' := 66) rfl rfl rfl hx0 ci_4 (fun c2 => ?_) (fun c2 => ?_)
    · refine h_iload_n (pc' := 83) rfl rfl rfl ?_
      refine h_iconst (pc' := 84) (x := (Int32.ofInt 5)) rfl rfl rfl ?_
      refine h_cne (tg := 103) (pc' := 87) rfl rfl rfl hx0 ci_5 (fun c3 => ?_) (fun c3 => ?_)
      · refine h_iload_n (pc' := 104) rfl rfl rfl ?_
        refine h_bipush (pc' := 106) (x := (Int32.ofInt 6)) rfl rfl cb_6 ?_
        refine h_cne (tg := 174) (pc' := 109) rfl rfl rfl hx0 ci_6 (fun c4 => ?_) (fun c4 => ?_)
        · refine h_aload_n (pc' := 175) rfl rfl rfl ?_
          refine h_call (sp := false) (pc' := 178) (M := [(0, .ref 98)]) rfl rfl rfl rfl rfl rfl rfl rfl ?_
          refine v_readPlan _ hI  (fun s6 Is6 Gs6 ps6_0 ps6_1 => h_Kn ?_)
          have Fs6 := (Gs6).tr F00
          exact h_vret rfl rfl (kk _ Is6 Fs6 (by omega) (by omega))
        · refine h_aload_n (pc' := 110) rfl rfl rfl ?_
          refine h_getR (pc' := 113) rfl rfl rfl rfl rfl ?_
          refine h_bipush (pc' := 115) (x := (Int32.ofInt 26)) rfl rfl cb_26 ?_
          refine h_aload_n (pc' := 116) rfl rfl rfl ?_
          refine h_getI (pc' := 119) (v := σ 98 6) rfl rfl rfl rfl rfl rfl (fun z7 hz7 => ?_)
          have tz7 := tf_98_6 hI
          refine h_iadd (pc' := 120) rfl rfl ci_26 hz7 rfl (by omega) (by omega) (fun z8 hz8 => ?_)
          refine h_aload_n (pc' := 121) rfl rfl rfl ?_
          refine h_iconst (pc' := 122) (x := (Int32.ofInt 0)) rfl rfl rfl ?_
          refine h_bipush (pc' := 124) (x := (Int32.ofInt 9)) rfl rfl cb_9 ?_
          refine h_call (sp := false) (pc' := 127) (M := [(0, .ref 98), (1, .int (Int32.ofInt 0)), (2, .int (Int32.ofInt 9))]) rfl rfl rfl rfl rfl rfl rfl rfl ?_
          refine v_number _ hI  (Int32.ofInt 9) _ ci_9 (fun r9 br9 hr9 s10 Is10 Gs10 tr9 ps10_0 ps10_1 ps10_2 => h_Kv ?_)
          have Fs10 := (Gs10.l1).tr F00
          have es10_5 : s10 98 5 = σ 98 5 := Gs10 98 5 rfl
          have es10_6 : s10 98 6 = σ 98 6 := Gs10 98 6 rfl
          have es10_7 : s10 101 18 = σ 101 18 := Gs10 101 18 rfl
          have es10_8 : s10 101 25 = σ 101 25 := Gs10 101 25 rfl
          refine h_iast (pc' := 128) rfl rfl rfl rfl hz8 (by omega) (by omega) hr9 ?_
          have Is11 : h_I (h_up s10 101 (26 + (σ 98 6)) br9) := (ip_101_6 Is10 (by omega) (by omega))
          have Fs11 := (Fs10.up (q := 101) (a := (26 + (σ 98 6))) (v := br9) rfl)
          have es11_0 : h_up s10 101 (26 + (σ 98 6)) br9 98 15 = s10 98 15 := rfl
          have es11_1 : h_up s10 101 (26 + (σ 98 6)) br9 98 16 = s10 98 16 := rfl
          have es11_2 : h_up s10 101 (26 + (σ 98 6)) br9 98 17 = s10 98 17 := rfl
          have es11_3 : h_up s10 101 (26 + (σ 98 6)) br9 98 18 = s10 98 18 := rfl
          have es11_4 : h_up s10 101 (26 + (σ 98 6)) br9 98 13 = s10 98 13 := rfl
          have es11_5 : h_up s10 101 (26 + (σ 98 6)) br9 98 5 = s10 98 5 := rfl
          have es11_6 : h_up s10 101 (26 + (σ 98 6)) br9 98 6 = s10 98 6 := rfl
          have es11_7 := h_up_at (σ := s10) (q := 101) (j := (26 + (σ 98 6))) (v := br9) (i := 18)
          have es11_8 := h_up_at (σ := s10) (q := 101) (j := (26 + (σ 98 6))) (v := br9) (i := 25)
          generalize h_up s10 101 (26 + (σ 98 6)) br9 = s11 at Is11 Fs11 es11_0 es11_1 es11_2 es11_3 es11_4 es11_5 es11_6 es11_7 es11_8 ⊢
          refine h_aload_n (pc' := 129) rfl rfl rfl ?_
          refine h_getI (pc' := 132) (v := s11 98 13) rfl rfl rfl rfl rfl rfl (fun z12 hz12 => ?_)
          have tz12 := tf_98_13 Is11
          refine h_zne (tg := 161) (pc' := 135) rfl rfl rfl hz12 (fun c13 => ?_) (fun c13 => ?_)
          · refine h_aload_n (pc' := 162) rfl rfl rfl ?_
            refine h_dup (pc' := 163) rfl rfl rfl ?_
            refine h_getI (pc' := 166) (v := s11 98 6) rfl rfl rfl rfl rfl rfl (fun z14 hz14 => ?_)
            have tz14 := tf_98_6 Is11
            refine h_iconst (pc' := 167) (x := (Int32.ofInt 1)) rfl rfl rfl ?_
            refine h_iadd (pc' := 168) rfl rfl hz14 ci_1 rfl (by omega) (by omega) (fun z15 hz15 => ?_)
            refine h_put (pc' := 171) rfl rfl rfl rfl rfl rfl hz15 rfl ?_
            have Is16 : h_I (h_up s11 98 6 ((s11 98 6) + 1)) := (if_98_6 Is11 (by omega))
            have Fs16 := (Fs11.up (q := 98) (a := 6) (v := ((s11 98 6) + 1)) rfl)
            have es16_0 : h_up s11 98 6 ((s11 98 6) + 1) 98 15 = s11 98 15 := rfl
            have es16_1 : h_up s11 98 6 ((s11 98 6) + 1) 98 16 = s11 98 16 := rfl
            have es16_2 : h_up s11 98 6 ((s11 98 6) + 1) 98 17 = s11 98 17 := rfl
            have es16_3 : h_up s11 98 6 ((s11 98 6) + 1) 98 18 = s11 98 18 := rfl
            have es16_4 : h_up s11 98 6 ((s11 98 6) + 1) 98 13 = s11 98 13 := rfl
            have es16_5 : h_up s11 98 6 ((s11 98 6) + 1) 98 5 = s11 98 5 := rfl
            have es16_6 : h_up s11 98 6 ((s11 98 6) + 1) 98 6 = ((s11 98 6) + 1) := rfl
            have es16_7 : h_up s11 98 6 ((s11 98 6) + 1) 101 18 = s11 101 18 := rfl
            have es16_8 : h_up s11 98 6 ((s11 98 6) + 1) 101 25 = s11 101 25 := rfl
            generalize h_up s11 98 6 ((s11 98 6) + 1) = s16 at Is16 Fs16 es16_0 es16_1 es16_2 es16_3 es16_4 es16_5 es16_6 es16_7 es16_8 ⊢
            refine h_goto (pc' := 178) rfl rfl ?_
            exact h_vret rfl rfl (kk _ Is16 Fs16 (by omega) (by omega))
          · refine h_aload_n (pc' := 136) rfl rfl rfl ?_
            refine h_getI (pc' := 139) (v := s11 98 17) rfl rfl rfl rfl rfl rfl (fun z17 hz17 => ?_)
            have tz17 := tf_98_17 Is11
            refine h_iconst (pc' := 140) (x := (Int32.ofInt 2)) rfl rfl rfl ?_
            refine h_cne (tg := 161) (pc' := 143) rfl rfl rfl hz17 ci_2 (fun c18 => ?_) (fun c18 => ?_)
            · refine h_aload_n (pc' := 162) rfl rfl rfl ?_
              refine h_dup (pc' := 163) rfl rfl rfl ?_
              refine h_getI (pc' := 166) (v := s11 98 6) rfl rfl rfl rfl rfl rfl (fun z19 hz19 => ?_)
              have tz19 := tf_98_6 Is11
              refine h_iconst (pc' := 167) (x := (Int32.ofInt 1)) rfl rfl rfl ?_
              refine h_iadd (pc' := 168) rfl rfl hz19 ci_1 rfl (by omega) (by omega) (fun z20 hz20 => ?_)
              refine h_put (pc' := 171) rfl rfl rfl rfl rfl rfl hz20 rfl ?_
              have Is21 : h_I (h_up s11 98 6 ((s11 98 6) + 1)) := (if_98_6 Is11 (by omega))
              have Fs21 := (Fs11.up (q := 98) (a := 6) (v := ((s11 98 6) + 1)) rfl)
              have es21_0 : h_up s11 98 6 ((s11 98 6) + 1) 98 15 = s11 98 15 := rfl
              have es21_1 : h_up s11 98 6 ((s11 98 6) + 1) 98 16 = s11 98 16 := rfl
              have es21_2 : h_up s11 98 6 ((s11 98 6) + 1) 98 17 = s11 98 17 := rfl
              have es21_3 : h_up s11 98 6 ((s11 98 6) + 1) 98 18 = s11 98 18 := rfl
              have es21_4 : h_up s11 98 6 ((s11 98 6) + 1) 98 13 = s11 98 13 := rfl
              have es21_5 : h_up s11 98 6 ((s11 98 6) + 1) 98 5 = s11 98 5 := rfl
              have es21_6 : h_up s11 98 6 ((s11 98 6) + 1) 98 6 = ((s11 98 6) + 1) := rfl
              have es21_7 : h_up s11 98 6 ((s11 98 6) + 1) 101 18 = s11 101 18 := rfl
              have es21_8 : h_up s11 98 6 ((s11 98 6) + 1) 101 25 = s11 101 25 := rfl
              generalize h_up s11 98 6 ((s11 98 6) + 1) = s21 at Is21 Fs21 es21_0 es21_1 es21_2 es21_3 es21_4 es21_5 es21_6 es21_7 es21_8 ⊢
              refine h_goto (pc' := 178) rfl rfl ?_
              exact h_vret rfl rfl (kk _ Is21 Fs21 (by omega) (by omega))
            · refine h_aload_n (pc' := 144) rfl rfl rfl ?_
              refine h_getR (pc' := 147) rfl rfl rfl rfl rfl ?_
              refine h_bipush (pc' := 149) (x := (Int32.ofInt 29)) rfl rfl cb_29 ?_
              refine h_aload_n (pc' := 150) rfl rfl rfl ?_
              refine h_getI (pc' := 153) (v := s11 98 6) rfl rfl rfl rfl rfl rfl (fun z22 hz22 => ?_)
              have tz22 := tf_98_6 Is11
              refine h_iadd (pc' := 154) rfl rfl ci_29 hz22 rfl (by omega) (by omega) (fun z23 hz23 => ?_)
              refine h_aload_n (pc' := 155) rfl rfl rfl ?_
              refine h_call (sp := false) (pc' := 158) (M := [(0, .ref 98)]) rfl rfl rfl rfl rfl rfl rfl rfl ?_
              refine v_oneHere _ Is11  (fun r24 br24 hr24 s25 Is25 Gs25 tr24 ps25_0 ps25_1 ps25_2 => h_Kv ?_)
              have Fs25 := (Gs25.l1).tr Fs11
              have es25_5 : s25 98 5 = s11 98 5 := Gs25 98 5 rfl
              have es25_6 : s25 98 6 = s11 98 6 := Gs25 98 6 rfl
              have es25_7 : s25 101 18 = s11 101 18 := Gs25 101 18 rfl
              have es25_8 : s25 101 25 = s11 101 25 := Gs25 101 25 rfl
              refine h_iconst (pc' := 159) (x := (Int32.ofInt 1)) rfl rfl rfl ?_
              refine h_iadd (pc' := 160) rfl rfl hr24 ci_1 rfl (by omega) (by omega) (fun z26 hz26 => ?_)
              refine h_iast (pc' := 161) rfl rfl rfl rfl hz23 (by omega) (by omega) hz26 ?_
              have Is27 : h_I (h_up s25 101 (29 + (s11 98 6)) (br24 + 1)) := (ip_101_7 Is25 (by omega) (by omega))
              have Fs27 := (Fs25.up (q := 101) (a := (29 + (s11 98 6))) (v := (br24 + 1)) rfl)
              have es27_0 : h_up s25 101 (29 + (s11 98 6)) (br24 + 1) 98 15 = s25 98 15 := rfl
              have es27_1 : h_up s25 101 (29 + (s11 98 6)) (br24 + 1) 98 16 = s25 98 16 := rfl
              have es27_2 : h_up s25 101 (29 + (s11 98 6)) (br24 + 1) 98 17 = s25 98 17 := rfl
              have es27_3 : h_up s25 101 (29 + (s11 98 6)) (br24 + 1) 98 18 = s25 98 18 := rfl
              have es27_4 : h_up s25 101 (29 + (s11 98 6)) (br24 + 1) 98 13 = s25 98 13 := rfl
              have es27_5 : h_up s25 101 (29 + (s11 98 6)) (br24 + 1) 98 5 = s25 98 5 := rfl
              have es27_6 : h_up s25 101 (29 + (s11 98 6)) (br24 + 1) 98 6 = s25 98 6 := rfl
              have es27_7 := h_up_at (σ := s25) (q := 101) (j := (29 + (s11 98 6))) (v := (br24 + 1)) (i := 18)
              have es27_8 := h_up_at (σ := s25) (q := 101) (j := (29 + (s11 98 6))) (v := (br24 + 1)) (i := 25)
              generalize h_up s25 101 (29 + (s11 98 6)) (br24 + 1) = s27 at Is27 Fs27 es27_0 es27_1 es27_2 es27_3 es27_4 es27_5 es27_6 es27_7 es27_8 ⊢
              refine h_aload_n (pc' := 162) rfl rfl rfl ?_
              refine h_dup (pc' := 163) rfl rfl rfl ?_
              refine h_getI (pc' := 166) (v := s27 98 6) rfl rfl rfl rfl rfl rfl (fun z28 hz28 => ?_)
              have tz28 := tf_98_6 Is27
              refine h_iconst (pc' := 167) (x := (Int32.ofInt 1)) rfl rfl rfl ?_
              refine h_iadd (pc' := 168) rfl rfl hz28 ci_1 rfl (by omega) (by omega) (fun z29 hz29 => ?_)
              refine h_put (pc' := 171) rfl rfl rfl rfl rfl rfl hz29 rfl ?_
              have Is30 : h_I (h_up s27 98 6 ((s27 98 6) + 1)) := (if_98_6 Is27 (by omega))
              have Fs30 := (Fs27.up (q := 98) (a := 6) (v := ((s27 98 6) + 1)) rfl)
              have es30_0 : h_up s27 98 6 ((s27 98 6) + 1) 98 15 = s27 98 15 := rfl
              have es30_1 : h_up s27 98 6 ((s27 98 6) + 1) 98 16 = s27 98 16 := rfl
              have es30_2 : h_up s27 98 6 ((s27 98 6) + 1) 98 17 = s27 98 17 := rfl
              have es30_3 : h_up s27 98 6 ((s27 98 6) + 1) 98 18 = s27 98 18 := rfl
              have es30_4 : h_up s27 98 6 ((s27 98 6) + 1) 98 13 = s27 98 13 := rfl
              have es30_5 : h_up s27 98 6 ((s27 98 6) + 1) 98 5 = s27 98 5 := rfl
              have es30_6 : h_up s27 98 6 ((s27 98 6) + 1) 98 6 = ((s27 98 6) + 1) := rfl
              have es30_7 : h_up s27 98 6 ((s27 98 6) + 1) 101 18 = s27 101 18 := rfl
              have es30_8 : h_up s27 98 6 ((s27 98 6) + 1) 101 25 = s27 101 25 := rfl
              generalize h_up s27 98 6 ((s27 98 6) + 1) = s30 at Is30 Fs30 es30_0 es30_1 es30_2 es30_3 es30_4 es30_5 es30_6 es30_7 es30_8 ⊢
              refine h_goto (pc' := 178) rfl rfl ?_
              exact h_vret rfl rfl (kk _ Is30 Fs30 (by omega) (by omega))
      · refine h_aload_n (pc' := 88) rfl rfl rfl ?_
        refine h_bipush (pc' := 90) (x := (Int32.ofInt 19)) rfl rfl cb_19 ?_
        refine h_aload_n (pc' := 91) rfl rfl rfl ?_
        refine h_getR (pc' := 94) rfl rfl rfl rfl rfl ?_
        refine h_bipush (pc' := 96) (x := (Int32.ofInt 25)) rfl rfl cb_25 ?_
        refine h_iald (pc' := 97) (v := σ 101 25) rfl rfl rfl ci_25 (by omega) (by omega) rfl (fun z31 hz31 => ?_)
        have tz31 := ty_101_5 hI 25 (by omega)
        refine h_call (sp := false) (pc' := 100) (M := [(0, .ref 98), (1, .int (Int32.ofInt 19)), (2, .int z31)]) rfl rfl rfl rfl rfl rfl rfl rfl ?_
        refine v_readPair19 _ hI  z31 _ hz31 (by omega) (by omega) (fun s33 Is33 Gs33 ps33_0 ps33_1 => h_Kn ?_)
        have Fs33 := (Gs33).tr F00
        refine h_goto (pc' := 178) rfl rfl ?_
        exact h_vret rfl rfl (kk _ Is33 Fs33 (by omega) (by omega))
    · refine h_aload_n (pc' := 67) rfl rfl rfl ?_
      refine h_bipush (pc' := 69) (x := (Int32.ofInt 12)) rfl rfl cb_12 ?_
      refine h_aload_n (pc' := 70) rfl rfl rfl ?_
      refine h_getR (pc' := 73) rfl rfl rfl rfl rfl ?_
      refine h_bipush (pc' := 75) (x := (Int32.ofInt 18)) rfl rfl cb_18 ?_
      refine h_iald (pc' := 76) (v := σ 101 18) rfl rfl rfl ci_18 (by omega) (by omega) rfl (fun z34 hz34 => ?_)
      have tz34 := ty_101_3 hI 18 (by omega)
      refine h_call (sp := false) (pc' := 79) (M := [(0, .ref 98), (1, .int (Int32.ofInt 12)), (2, .int z34)]) rfl rfl rfl rfl rfl rfl rfl rfl ?_
      refine v_readPair12 _ hI  z34 _ hz34 (by omega) (by omega) (fun s36 Is36 Gs36 ps36_0 ps36_1 => h_Kn ?_)
      have Fs36 := (Gs36).tr F00
      refine h_goto (pc' := 178) rfl rfl ?_
      exact h_vret rfl rfl (kk _ Is36 Fs36 (by omega) (by omega))
  · refine h_aload_n (pc' := 6) rfl rfl rfl ?_
    refine h_getR (pc' := 9) rfl rfl rfl rfl rfl ?_
    refine h_aload_n (pc' := 10) rfl rfl rfl ?_
    refine h_getI (pc' := 13) (v := σ 98 5) rfl rfl rfl rfl rfl rfl (fun z37 hz37 => ?_)
    have tz37 := tf_98_5 hI
    refine h_iload_n (pc' := 14) rfl rfl rfl ?_
    refine h_iast (pc' := 15) rfl rfl rfl rfl hz37 (by omega) (by omega) hx0 ?_
    have Is38 : h_I (h_up σ 101 (σ 98 5) a0) := (ip_101_0 hI (by omega) (by omega))
    have Fs38 := (F00.up (q := 101) (a := (σ 98 5)) (v := a0) rfl)
    have es38_0 : h_up σ 101 (σ 98 5) a0 98 15 = σ 98 15 := rfl
    have es38_1 : h_up σ 101 (σ 98 5) a0 98 16 = σ 98 16 := rfl
    have es38_2 : h_up σ 101 (σ 98 5) a0 98 17 = σ 98 17 := rfl
    have es38_3 : h_up σ 101 (σ 98 5) a0 98 18 = σ 98 18 := rfl
    have es38_4 : h_up σ 101 (σ 98 5) a0 98 13 = σ 98 13 := rfl
    have es38_5 : h_up σ 101 (σ 98 5) a0 98 5 = σ 98 5 := rfl
    have es38_6 : h_up σ 101 (σ 98 5) a0 98 6 = σ 98 6 := rfl
    have es38_7 := h_up_at (σ := σ) (q := 101) (j := (σ 98 5)) (v := a0) (i := 18)
    have es38_8 := h_up_at (σ := σ) (q := 101) (j := (σ 98 5)) (v := a0) (i := 25)
    generalize h_up σ 101 (σ 98 5) a0 = s38 at Is38 Fs38 es38_0 es38_1 es38_2 es38_3 es38_4 es38_5 es38_6 es38_7 es38_8 ⊢
    refine h_aload_n (pc' := 16) rfl rfl rfl ?_
    refine h_getI (pc' := 19) (v := s38 98 17) rfl rfl rfl rfl rfl rfl (fun z39 hz39 => ?_)
    have tz39 := tf_98_17 Is38
    refine h_iconst (pc' := 20) (x := (Int32.ofInt 2)) rfl rfl rfl ?_
    refine h_cne (tg := 48) (pc' := 23) rfl rfl rfl hz39 ci_2 (fun c40 => ?_) (fun c40 => ?_)
    · refine h_aload_n (pc' := 49) rfl rfl rfl ?_
      refine h_dup (pc' := 50) rfl rfl rfl ?_
      refine h_getI (pc' := 53) (v := s38 98 5) rfl rfl rfl rfl rfl rfl (fun z41 hz41 => ?_)
      have tz41 := tf_98_5 Is38
      refine h_iconst (pc' := 54) (x := (Int32.ofInt 1)) rfl rfl rfl ?_
      refine h_iadd (pc' := 55) rfl rfl hz41 ci_1 rfl (by omega) (by omega) (fun z42 hz42 => ?_)
      refine h_put (pc' := 58) rfl rfl rfl rfl rfl rfl hz42 rfl ?_
      have Is43 : h_I (h_up s38 98 5 ((s38 98 5) + 1)) := (if_98_5 Is38 (by omega))
      have Fs43 := (Fs38.up (q := 98) (a := 5) (v := ((s38 98 5) + 1)) rfl)
      have es43_0 : h_up s38 98 5 ((s38 98 5) + 1) 98 15 = s38 98 15 := rfl
      have es43_1 : h_up s38 98 5 ((s38 98 5) + 1) 98 16 = s38 98 16 := rfl
      have es43_2 : h_up s38 98 5 ((s38 98 5) + 1) 98 17 = s38 98 17 := rfl
      have es43_3 : h_up s38 98 5 ((s38 98 5) + 1) 98 18 = s38 98 18 := rfl
      have es43_4 : h_up s38 98 5 ((s38 98 5) + 1) 98 13 = s38 98 13 := rfl
      have es43_5 : h_up s38 98 5 ((s38 98 5) + 1) 98 5 = ((s38 98 5) + 1) := rfl
      have es43_6 : h_up s38 98 5 ((s38 98 5) + 1) 98 6 = s38 98 6 := rfl
      have es43_7 : h_up s38 98 5 ((s38 98 5) + 1) 101 18 = s38 101 18 := rfl
      have es43_8 : h_up s38 98 5 ((s38 98 5) + 1) 101 25 = s38 101 25 := rfl
      generalize h_up s38 98 5 ((s38 98 5) + 1) = s43 at Is43 Fs43 es43_0 es43_1 es43_2 es43_3 es43_4 es43_5 es43_6 es43_7 es43_8 ⊢
      refine h_goto (pc' := 178) rfl rfl ?_
      exact h_vret rfl rfl (kk _ Is43 Fs43 (by omega) (by omega))
    · refine h_aload_n (pc' := 24) rfl rfl rfl ?_
      refine h_getR (pc' := 27) rfl rfl rfl rfl rfl ?_
      refine h_bipush (pc' := 29) (x := (Int32.ofInt 6)) rfl rfl cb_6 ?_
      refine h_aload_n (pc' := 30) rfl rfl rfl ?_
      refine h_getI (pc' := 33) (v := s38 98 5) rfl rfl rfl rfl rfl rfl (fun z44 hz44 => ?_)
      have tz44 := tf_98_5 Is38
      refine h_iadd (pc' := 34) rfl rfl ci_6 hz44 rfl (by omega) (by omega) (fun z45 hz45 => ?_)
      refine h_aload_n (pc' := 35) rfl rfl rfl ?_
      refine h_iconst (pc' := 36) (x := (Int32.ofInt 0)) rfl rfl rfl ?_
      refine h_aload_n (pc' := 37) rfl rfl rfl ?_
      refine h_getI (pc' := 40) (v := s38 98 5) rfl rfl rfl rfl rfl rfl (fun z46 hz46 => ?_)
      have tz46 := tf_98_5 Is38
      refine h_iconst (pc' := 41) (x := (Int32.ofInt 1)) rfl rfl rfl ?_
      refine h_isub (pc' := 42) rfl rfl hz46 ci_1 rfl (by omega) (by omega) (fun z47 hz47 => ?_)
      refine h_call (sp := false) (pc' := 45) (M := [(0, .ref 98), (1, .int (Int32.ofInt 0)), (2, .int z47)]) rfl rfl rfl rfl rfl rfl rfl rfl ?_
      refine v_number _ Is38  z47 _ hz47 (fun r48 br48 hr48 s49 Is49 Gs49 tr48 ps49_0 ps49_1 ps49_2 => h_Kv ?_)
      have Fs49 := (Gs49.l1).tr Fs38
      have es49_5 : s49 98 5 = s38 98 5 := Gs49 98 5 rfl
      have es49_6 : s49 98 6 = s38 98 6 := Gs49 98 6 rfl
      have es49_7 : s49 101 18 = s38 101 18 := Gs49 101 18 rfl
      have es49_8 : s49 101 25 = s38 101 25 := Gs49 101 25 rfl
      refine h_iconst (pc' := 46) (x := (Int32.ofInt 1)) rfl rfl rfl ?_
      refine h_iadd (pc' := 47) rfl rfl hr48 ci_1 rfl (by omega) (by omega) (fun z50 hz50 => ?_)
      refine h_iast (pc' := 48) rfl rfl rfl rfl hz45 (by omega) (by omega) hz50 ?_
      have Is51 : h_I (h_up s49 101 (6 + (s38 98 5)) (br48 + 1)) := (ip_101_1 Is49 (by omega) (by omega))
      have Fs51 := (Fs49.up (q := 101) (a := (6 + (s38 98 5))) (v := (br48 + 1)) rfl)
      have es51_0 : h_up s49 101 (6 + (s38 98 5)) (br48 + 1) 98 15 = s49 98 15 := rfl
      have es51_1 : h_up s49 101 (6 + (s38 98 5)) (br48 + 1) 98 16 = s49 98 16 := rfl
      have es51_2 : h_up s49 101 (6 + (s38 98 5)) (br48 + 1) 98 17 = s49 98 17 := rfl
      have es51_3 : h_up s49 101 (6 + (s38 98 5)) (br48 + 1) 98 18 = s49 98 18 := rfl
      have es51_4 : h_up s49 101 (6 + (s38 98 5)) (br48 + 1) 98 13 = s49 98 13 := rfl
      have es51_5 : h_up s49 101 (6 + (s38 98 5)) (br48 + 1) 98 5 = s49 98 5 := rfl
      have es51_6 : h_up s49 101 (6 + (s38 98 5)) (br48 + 1) 98 6 = s49 98 6 := rfl
      have es51_7 := h_up_at (σ := s49) (q := 101) (j := (6 + (s38 98 5))) (v := (br48 + 1)) (i := 18)
      have es51_8 := h_up_at (σ := s49) (q := 101) (j := (6 + (s38 98 5))) (v := (br48 + 1)) (i := 25)
      generalize h_up s49 101 (6 + (s38 98 5)) (br48 + 1) = s51 at Is51 Fs51 es51_0 es51_1 es51_2 es51_3 es51_4 es51_5 es51_6 es51_7 es51_8 ⊢
      refine h_aload_n (pc' := 49) rfl rfl rfl ?_
      refine h_dup (pc' := 50) rfl rfl rfl ?_
      refine h_getI (pc' := 53) (v := s51 98 5) rfl rfl rfl rfl rfl rfl (fun z52 hz52 => ?_)
      have tz52 := tf_98_5 Is51
      refine h_iconst (pc' := 54) (x := (Int32.ofInt 1)) rfl rfl rfl ?_
      refine h_iadd (pc' := 55) rfl rfl hz52 ci_1 rfl (by omega) (by omega) (fun z53 hz53 => ?_)
      refine h_put (pc' := 58) rfl rfl rfl rfl rfl rfl hz53 rfl ?_
      have Is54 : h_I (h_up s51 98 5 ((s51 98 5) + 1)) := (if_98_5 Is51 (by omega))
      have Fs54 := (Fs51.up (q := 98) (a := 5) (v := ((s51 98 5) + 1)) rfl)
      have es54_0 : h_up s51 98 5 ((s51 98 5) + 1) 98 15 = s51 98 15 := rfl
      have es54_1 : h_up s51 98 5 ((s51 98 5) + 1) 98 16 = s51 98 16 := rfl
      have es54_2 : h_up s51 98 5 ((s51 98 5) + 1) 98 17 = s51 98 17 := rfl
      have es54_3 : h_up s51 98 5 ((s51 98 5) + 1) 98 18 = s51 98 18 := rfl
      have es54_4 : h_up s51 98 5 ((s51 98 5) + 1) 98 13 = s51 98 13 := rfl
      have es54_5 : h_up s51 98 5 ((s51 98 5) + 1) 98 5 = ((s51 98 5) + 1) := rfl
      have es54_6 : h_up s51 98 5 ((s51 98 5) + 1) 98 6 = s51 98 6 := rfl
      have es54_7 : h_up s51 98 5 ((s51 98 5) + 1) 101 18 = s51 101 18 := rfl
      have es54_8 : h_up s51 98 5 ((s51 98 5) + 1) 101 25 = s51 101 25 := rfl
      generalize h_up s51 98 5 ((s51 98 5) + 1) = s54 at Is54 Fs54 es54_0 es54_1 es54_2 es54_3 es54_4 es54_5 es54_6 es54_7 es54_8 ⊢
      refine h_goto (pc' := 178) rfl rfl ?_
      exact h_vret rfl rfl (kk _ Is54 Fs54 (by omega) (by omega))
theorem v_readLine {ns : Nat} (σ : h_S) (hI : h_I σ) {Q : Option Value → h_S → Prop} (kk : ∀ (τ : h_S), h_I τ → h_F k_nt τ σ → (σ 98 15 ≤ τ 98 15) → (τ 98 17 = 0 ∨ σ 98 15 < τ 98 15 ∨ ¬ τ 98 13 = 0) → Q none τ) : h_T g_P (g_Y ns) 154 0 [(0, .ref 98)] [] σ Q := by
  have F00 : h_F k_nt σ σ := h_F.rf
  refine h_aload_n (pc' := 1) rfl rfl rfl ?_
  refine h_call (sp := false) (pc' := 4) (M := [(0, .ref 98)]) rfl rfl rfl rfl rfl rfl rfl rfl ?_
  refine v_nameHere _ hI  (fun r1 br1 hr1 tr1 ps2_0 => h_Kv ?_)
  refine h_istore_n (pc' := 5) (M := [(1, .int r1), (0, .ref 98)]) rfl rfl rfl rfl ?_
  refine h_iload_n (pc' := 6) rfl rfl rfl ?_
  refine h_i2l (pc' := 7) rfl rfl hr1 (fun z3 hz3 => ?_)
  refine h_lconst (pc' := 8) (x := (Int64.ofInt 0)) rfl rfl rfl ?_
  refine h_ldc2 (pc' := 11) (x := (Int64.ofInt 7)) rfl rfl rfl ?_
  refine h_calls (pc' := 14) (M := [(0, .long z3), (2, .long (Int64.ofInt 0)), (4, .long (Int64.ofInt 7))]) rfl rfl rfl rfl rfl rfl ?_
  refine h_lload_n (pc' := 1) rfl rfl rfl ?_
  refine h_lload_n (pc' := 2) rfl rfl rfl ?_
  refine h_lcmp (pc' := 3) rfl rfl hz3 cl_0 (fun z4 hz4 => ?_)
  refine h_zlt (tg := 17) (pc' := 6) rfl rfl rfl rfl (fun c5 => ?_) (fun c5 => ?_)
  · refine h_iconst (pc' := 18) (x := (Int32.ofInt 0)) rfl rfl rfl ?_
    refine h_zret rfl rfl ci_0 (by omega) (h_Kv ?_)
    refine h_zne (tg := 23) (pc' := 17) rfl rfl rfl ci_0 (fun c6 => absurd c6 (by omega)) (fun c6 => ?_)
    refine h_aload_n (pc' := 18) rfl rfl rfl ?_
    refine h_iconst (pc' := 19) (x := (Int32.ofInt 2)) rfl rfl rfl ?_
    refine h_call (sp := false) (pc' := 22) (M := [(0, .ref 98), (1, .int (Int32.ofInt 2))]) rfl rfl rfl rfl rfl rfl rfl rfl ?_
    refine h_aload_n (pc' := 1) rfl rfl rfl ?_
    refine h_getI (pc' := 4) (v := σ 98 13) rfl rfl rfl rfl rfl rfl (fun z7 hz7 => ?_)
    have tz7 := tf_98_13 hI
    refine h_zne (tg := 20) (pc' := 7) rfl rfl rfl hz7 (fun c8 => ?_) (fun c8 => ?_)
    · refine h_vret rfl rfl (h_Kn ?_)
      exact h_vret rfl rfl (kk _ hI F00 (by omega) (by omega))
    · refine h_aload_n (pc' := 8) rfl rfl rfl ?_
      refine h_iload_n (pc' := 9) rfl rfl rfl ?_
      refine h_put (pc' := 12) rfl rfl rfl rfl rfl rfl ci_2 rfl ?_
      have Is9 : h_I (h_up σ 98 13 2) := (if_98_13 hI (by omega))
      have Fs9 := (F00.up (q := 98) (a := 13) (v := 2) rfl)
      have es9_0 : h_up σ 98 13 2 98 15 = σ 98 15 := rfl
      have es9_1 : h_up σ 98 13 2 98 16 = σ 98 16 := rfl
      have es9_2 : h_up σ 98 13 2 98 17 = σ 98 17 := rfl
      have es9_3 : h_up σ 98 13 2 98 18 = σ 98 18 := rfl
      have es9_4 : h_up σ 98 13 2 98 13 = 2 := rfl
      have es9_5 : h_up σ 98 13 2 98 5 = σ 98 5 := rfl
      have es9_6 : h_up σ 98 13 2 98 6 = σ 98 6 := rfl
      have es9_7 : h_up σ 98 13 2 101 18 = σ 101 18 := rfl
      have es9_8 : h_up σ 98 13 2 101 25 = σ 101 25 := rfl
      generalize h_up σ 98 13 2 = s9 at Is9 Fs9 es9_0 es9_1 es9_2 es9_3 es9_4 es9_5 es9_6 es9_7 es9_8 ⊢
      refine h_aload_n (pc' := 13) rfl rfl rfl ?_
      refine h_aload_n (pc' := 14) rfl rfl rfl ?_
      refine h_getI (pc' := 17) (v := s9 98 16) rfl rfl rfl rfl rfl rfl (fun z10 hz10 => ?_)
      have tz10 := tf_98_16 Is9
      refine h_put (pc' := 20) rfl rfl rfl rfl rfl rfl hz10 rfl ?_
      have Is11 : h_I (h_up s9 98 14 (s9 98 16)) := (if_98_14 Is9 (h_rgv hz10))
      have Fs11 := (Fs9.up (q := 98) (a := 14) (v := (s9 98 16)) rfl)
      have es11_0 : h_up s9 98 14 (s9 98 16) 98 15 = s9 98 15 := rfl
      have es11_1 : h_up s9 98 14 (s9 98 16) 98 16 = s9 98 16 := rfl
      have es11_2 : h_up s9 98 14 (s9 98 16) 98 17 = s9 98 17 := rfl
      have es11_3 : h_up s9 98 14 (s9 98 16) 98 18 = s9 98 18 := rfl
      have es11_4 : h_up s9 98 14 (s9 98 16) 98 13 = s9 98 13 := rfl
      have es11_5 : h_up s9 98 14 (s9 98 16) 98 5 = s9 98 5 := rfl
      have es11_6 : h_up s9 98 14 (s9 98 16) 98 6 = s9 98 6 := rfl
      have es11_7 : h_up s9 98 14 (s9 98 16) 101 18 = s9 101 18 := rfl
      have es11_8 : h_up s9 98 14 (s9 98 16) 101 25 = s9 101 25 := rfl
      generalize h_up s9 98 14 (s9 98 16) = s11 at Is11 Fs11 es11_0 es11_1 es11_2 es11_3 es11_4 es11_5 es11_6 es11_7 es11_8 ⊢
      refine h_vret rfl rfl (h_Kn ?_)
      exact h_vret rfl rfl (kk _ Is11 Fs11 (by omega) (by omega))
  · refine h_lload_n (pc' := 7) rfl rfl rfl ?_
    refine h_lload (pc' := 9) rfl rfl rfl ?_
    refine h_lcmp (pc' := 10) rfl rfl hz3 cl_7 (fun z12 hz12 => ?_)
    refine h_zgt (tg := 17) (pc' := 13) rfl rfl rfl rfl (fun c13 => absurd c13 (by omega)) (fun c13 => ?_)
    refine h_iconst (pc' := 14) (x := (Int32.ofInt 1)) rfl rfl rfl ?_
    refine h_goto (pc' := 18) rfl rfl ?_
    refine h_zret rfl rfl ci_1 (by omega) (h_Kv ?_)
    refine h_zne (tg := 23) (pc' := 17) rfl rfl rfl ci_1 (fun c14 => ?_) (fun c14 => absurd c14 (by omega))
    refine h_iload_n (pc' := 24) rfl rfl rfl ?_
    refine h_iconst (pc' := 25) (x := (Int32.ofInt 3)) rfl rfl rfl ?_
    refine h_cgt (tg := 37) (pc' := 28) rfl rfl rfl hr1 ci_3 (fun c15 => ?_) (fun c15 => ?_)
    · refine h_iload_n (pc' := 38) rfl rfl rfl ?_
      refine h_iconst (pc' := 39) (x := (Int32.ofInt 4)) rfl rfl rfl ?_
      refine h_cne (tg := 53) (pc' := 42) rfl rfl rfl hr1 ci_4 (fun c16 => ?_) (fun c16 => ?_)
      · refine h_iload_n (pc' := 54) rfl rfl rfl ?_
        refine h_iconst (pc' := 55) (x := (Int32.ofInt 5)) rfl rfl rfl ?_
        refine h_cne (tg := 69) (pc' := 58) rfl rfl rfl hr1 ci_5 (fun c17 => ?_) (fun c17 => ?_)
        · refine h_iload_n (pc' := 70) rfl rfl rfl ?_
          refine h_bipush (pc' := 72) (x := (Int32.ofInt 6)) rfl rfl cb_6 ?_
          refine h_cne (tg := 88) (pc' := 75) rfl rfl rfl hr1 ci_6 (fun c18 => ?_) (fun c18 => ?_)
          · refine h_iload_n (pc' := 89) rfl rfl rfl ?_
            refine h_bipush (pc' := 91) (x := (Int32.ofInt 7)) rfl rfl cb_7 ?_
            refine h_cne (tg := 106) (pc' := 94) rfl rfl rfl hr1 ci_7 (fun c19 => absurd c19 (by omega)) (fun c19 => ?_)
            refine h_aload_n (pc' := 95) rfl rfl rfl ?_
            refine h_getI (pc' := 98) (v := σ 98 7) rfl rfl rfl rfl rfl rfl (fun z20 hz20 => ?_)
            have tz20 := tf_98_7 hI
            refine h_zeq (tg := 106) (pc' := 101) rfl rfl rfl hz20 (fun c21 => ?_) (fun c21 => ?_)
            · refine h_aload_n (pc' := 107) rfl rfl rfl ?_
              refine h_aload_n (pc' := 108) rfl rfl rfl ?_
              refine h_getI (pc' := 111) (v := σ 98 7) rfl rfl rfl rfl rfl rfl (fun z22 hz22 => ?_)
              have tz22 := tf_98_7 hI
              refine h_zne (tg := 120) (pc' := 114) rfl rfl rfl hz22 (fun c23 => absurd c23 (by omega)) (fun c23 => ?_)
              refine h_iload_n (pc' := 115) rfl rfl rfl ?_
              refine h_bipush (pc' := 117) (x := (Int32.ofInt 7)) rfl rfl cb_7 ?_
              refine h_cne (tg := 124) (pc' := 120) rfl rfl rfl hr1 ci_7 (fun c24 => absurd c24 (by omega)) (fun c24 => ?_)
              refine h_iconst (pc' := 121) (x := (Int32.ofInt 1)) rfl rfl rfl ?_
              refine h_goto (pc' := 125) rfl rfl ?_
              refine h_put (pc' := 128) rfl rfl rfl rfl rfl rfl ci_1 (h_fb ci_1 (by omega)) ?_
              have Is25 : h_I (h_up σ 98 7 1) := (if_98_7 hI (by omega))
              have Fs25 := (F00.up (q := 98) (a := 7) (v := 1) rfl)
              have es25_0 : h_up σ 98 7 1 98 15 = σ 98 15 := rfl
              have es25_1 : h_up σ 98 7 1 98 16 = σ 98 16 := rfl
              have es25_2 : h_up σ 98 7 1 98 17 = σ 98 17 := rfl
              have es25_3 : h_up σ 98 7 1 98 18 = σ 98 18 := rfl
              have es25_4 : h_up σ 98 7 1 98 13 = σ 98 13 := rfl
              have es25_5 : h_up σ 98 7 1 98 5 = σ 98 5 := rfl
              have es25_6 : h_up σ 98 7 1 98 6 = σ 98 6 := rfl
              have es25_7 : h_up σ 98 7 1 101 18 = σ 101 18 := rfl
              have es25_8 : h_up σ 98 7 1 101 25 = σ 101 25 := rfl
              generalize h_up σ 98 7 1 = s25 at Is25 Fs25 es25_0 es25_1 es25_2 es25_3 es25_4 es25_5 es25_6 es25_7 es25_8 ⊢
              refine h_aload_n (pc' := 129) rfl rfl rfl ?_
              refine h_call (sp := false) (pc' := 132) (M := [(0, .ref 98)]) rfl rfl rfl rfl rfl rfl rfl rfl ?_
              refine v_step _ Is25  (fun s27 Is27 Gs27 ps27_0 ps27_1 ps27_2 => h_Kn ?_)
              have Fs27 := (Gs27.l1).tr Fs25
              have es27_5 : s27 98 5 = s25 98 5 := Gs27 98 5 rfl
              have es27_6 : s27 98 6 = s25 98 6 := Gs27 98 6 rfl
              have es27_7 : s27 101 18 = s25 101 18 := Gs27 101 18 rfl
              have es27_8 : s27 101 25 = s25 101 25 := Gs27 101 25 rfl
              refine h_aload_n (pc' := 133) rfl rfl rfl ?_
              refine h_getI (pc' := 136) (v := s27 98 13) rfl rfl rfl rfl rfl rfl (fun z28 hz28 => ?_)
              have tz28 := tf_98_13 Is27
              refine h_zle (tg := 140) (pc' := 139) rfl rfl rfl hz28 (fun c29 => ?_) (fun c29 => ?_)
              · refine h_aload_n (pc' := 141) rfl rfl rfl ?_
                refine h_iload_n (pc' := 142) rfl rfl rfl ?_
                refine h_call (sp := false) (pc' := 145) (M := [(0, .ref 98), (1, .int r1)]) rfl rfl rfl rfl rfl rfl rfl rfl ?_
                refine v_readMore _ Is27 r1 _ hr1 (by omega) (by omega) (by omega) (by omega) (by omega) (fun s31 Is31 Gs31 ps31_0 ps31_1 => h_Kn ?_)
                have Fs31 := (Gs31).tr Fs27
                refine h_aload_n (pc' := 146) rfl rfl rfl ?_
                refine h_getI (pc' := 149) (v := s31 98 13) rfl rfl rfl rfl rfl rfl (fun z32 hz32 => ?_)
                have tz32 := tf_98_13 Is31
                refine h_zne (tg := 165) (pc' := 152) rfl rfl rfl hz32 (fun c33 => ?_) (fun c33 => ?_)
                · refine h_aload_n (pc' := 166) rfl rfl rfl ?_
                  refine h_call (sp := false) (pc' := 169) (M := [(0, .ref 98)]) rfl rfl rfl rfl rfl rfl rfl rfl ?_
                  refine v_step _ Is31  (fun s35 Is35 Gs35 ps35_0 ps35_1 ps35_2 => h_Kn ?_)
                  have Fs35 := (Gs35.l1).tr Fs31
                  have es35_5 : s35 98 5 = s31 98 5 := Gs35 98 5 rfl
                  have es35_6 : s35 98 6 = s31 98 6 := Gs35 98 6 rfl
                  have es35_7 : s35 101 18 = s31 101 18 := Gs35 101 18 rfl
                  have es35_8 : s35 101 25 = s31 101 25 := Gs35 101 25 rfl
                  exact h_vret rfl rfl (kk _ Is35 Fs35 (by omega) (by omega))
                · refine h_aload_n (pc' := 153) rfl rfl rfl ?_
                  refine h_getI (pc' := 156) (v := s31 98 17) rfl rfl rfl rfl rfl rfl (fun z36 hz36 => ?_)
                  have tz36 := tf_98_17 Is31
                  refine h_iconst (pc' := 157) (x := (Int32.ofInt 3)) rfl rfl rfl ?_
                  refine h_ceq (tg := 165) (pc' := 160) rfl rfl rfl hz36 ci_3 (fun c37 => ?_) (fun c37 => ?_)
                  · refine h_aload_n (pc' := 166) rfl rfl rfl ?_
                    refine h_call (sp := false) (pc' := 169) (M := [(0, .ref 98)]) rfl rfl rfl rfl rfl rfl rfl rfl ?_
                    refine v_step _ Is31  (fun s39 Is39 Gs39 ps39_0 ps39_1 ps39_2 => h_Kn ?_)
                    have Fs39 := (Gs39.l1).tr Fs31
                    have es39_5 : s39 98 5 = s31 98 5 := Gs39 98 5 rfl
                    have es39_6 : s39 98 6 = s31 98 6 := Gs39 98 6 rfl
                    have es39_7 : s39 101 18 = s31 101 18 := Gs39 101 18 rfl
                    have es39_8 : s39 101 25 = s31 101 25 := Gs39 101 25 rfl
                    exact h_vret rfl rfl (kk _ Is39 Fs39 (by omega) (by omega))
                  · refine h_aload_n (pc' := 161) rfl rfl rfl ?_
                    refine h_iconst (pc' := 162) (x := (Int32.ofInt 2)) rfl rfl rfl ?_
                    refine h_call (sp := false) (pc' := 165) (M := [(0, .ref 98), (1, .int (Int32.ofInt 2))]) rfl rfl rfl rfl rfl rfl rfl rfl ?_
                    refine h_aload_n (pc' := 1) rfl rfl rfl ?_
                    refine h_getI (pc' := 4) (v := s31 98 13) rfl rfl rfl rfl rfl rfl (fun z40 hz40 => ?_)
                    have tz40 := tf_98_13 Is31
                    refine h_zne (tg := 20) (pc' := 7) rfl rfl rfl hz40 (fun c41 => absurd c41 (by omega)) (fun c41 => ?_)
                    refine h_aload_n (pc' := 8) rfl rfl rfl ?_
                    refine h_iload_n (pc' := 9) rfl rfl rfl ?_
                    refine h_put (pc' := 12) rfl rfl rfl rfl rfl rfl ci_2 rfl ?_
                    have Is42 : h_I (h_up s31 98 13 2) := (if_98_13 Is31 (by omega))
                    have Fs42 := (Fs31.up (q := 98) (a := 13) (v := 2) rfl)
                    have es42_0 : h_up s31 98 13 2 98 15 = s31 98 15 := rfl
                    have es42_1 : h_up s31 98 13 2 98 16 = s31 98 16 := rfl
                    have es42_2 : h_up s31 98 13 2 98 17 = s31 98 17 := rfl
                    have es42_3 : h_up s31 98 13 2 98 18 = s31 98 18 := rfl
                    have es42_4 : h_up s31 98 13 2 98 13 = 2 := rfl
                    have es42_5 : h_up s31 98 13 2 98 5 = s31 98 5 := rfl
                    have es42_6 : h_up s31 98 13 2 98 6 = s31 98 6 := rfl
                    have es42_7 : h_up s31 98 13 2 101 18 = s31 101 18 := rfl
                    have es42_8 : h_up s31 98 13 2 101 25 = s31 101 25 := rfl
                    generalize h_up s31 98 13 2 = s42 at Is42 Fs42 es42_0 es42_1 es42_2 es42_3 es42_4 es42_5 es42_6 es42_7 es42_8 ⊢
                    refine h_aload_n (pc' := 13) rfl rfl rfl ?_
                    refine h_aload_n (pc' := 14) rfl rfl rfl ?_
                    refine h_getI (pc' := 17) (v := s42 98 16) rfl rfl rfl rfl rfl rfl (fun z43 hz43 => ?_)
                    have tz43 := tf_98_16 Is42
                    refine h_put (pc' := 20) rfl rfl rfl rfl rfl rfl hz43 rfl ?_
                    have Is44 : h_I (h_up s42 98 14 (s42 98 16)) := (if_98_14 Is42 (h_rgv hz43))
                    have Fs44 := (Fs42.up (q := 98) (a := 14) (v := (s42 98 16)) rfl)
                    have es44_0 : h_up s42 98 14 (s42 98 16) 98 15 = s42 98 15 := rfl
                    have es44_1 : h_up s42 98 14 (s42 98 16) 98 16 = s42 98 16 := rfl
                    have es44_2 : h_up s42 98 14 (s42 98 16) 98 17 = s42 98 17 := rfl
                    have es44_3 : h_up s42 98 14 (s42 98 16) 98 18 = s42 98 18 := rfl
                    have es44_4 : h_up s42 98 14 (s42 98 16) 98 13 = s42 98 13 := rfl
                    have es44_5 : h_up s42 98 14 (s42 98 16) 98 5 = s42 98 5 := rfl
                    have es44_6 : h_up s42 98 14 (s42 98 16) 98 6 = s42 98 6 := rfl
                    have es44_7 : h_up s42 98 14 (s42 98 16) 101 18 = s42 101 18 := rfl
                    have es44_8 : h_up s42 98 14 (s42 98 16) 101 25 = s42 101 25 := rfl
                    generalize h_up s42 98 14 (s42 98 16) = s44 at Is44 Fs44 es44_0 es44_1 es44_2 es44_3 es44_4 es44_5 es44_6 es44_7 es44_8 ⊢
                    refine h_vret rfl rfl (h_Kn ?_)
                    refine h_aload_n (pc' := 166) rfl rfl rfl ?_
                    refine h_call (sp := false) (pc' := 169) (M := [(0, .ref 98)]) rfl rfl rfl rfl rfl rfl rfl rfl ?_
                    refine v_step _ Is44  (fun s46 Is46 Gs46 ps46_0 ps46_1 ps46_2 => h_Kn ?_)
                    have Fs46 := (Gs46.l1).tr Fs44
                    have es46_5 : s46 98 5 = s44 98 5 := Gs46 98 5 rfl
                    have es46_6 : s46 98 6 = s44 98 6 := Gs46 98 6 rfl
                    have es46_7 : s46 101 18 = s44 101 18 := Gs46 101 18 rfl
                    have es46_8 : s46 101 25 = s44 101 25 := Gs46 101 25 rfl
                    exact h_vret rfl rfl (kk _ Is46 Fs46 (by omega) (by omega))
              · exact h_vret rfl rfl (kk _ Is27 Fs27 (by omega) (by omega))
            · refine h_aload_n (pc' := 102) rfl rfl rfl ?_
              refine h_iconst (pc' := 103) (x := (Int32.ofInt 4)) rfl rfl rfl ?_
              refine h_call (sp := false) (pc' := 106) (M := [(0, .ref 98), (1, .int (Int32.ofInt 4))]) rfl rfl rfl rfl rfl rfl rfl rfl ?_
              refine h_aload_n (pc' := 1) rfl rfl rfl ?_
              refine h_getI (pc' := 4) (v := σ 98 13) rfl rfl rfl rfl rfl rfl (fun z47 hz47 => ?_)
              have tz47 := tf_98_13 hI
              refine h_zne (tg := 20) (pc' := 7) rfl rfl rfl hz47 (fun c48 => ?_) (fun c48 => ?_)
              · refine h_vret rfl rfl (h_Kn ?_)
                refine h_aload_n (pc' := 107) rfl rfl rfl ?_
                refine h_aload_n (pc' := 108) rfl rfl rfl ?_
                refine h_getI (pc' := 111) (v := σ 98 7) rfl rfl rfl rfl rfl rfl (fun z49 hz49 => ?_)
                have tz49 := tf_98_7 hI
                refine h_zne (tg := 120) (pc' := 114) rfl rfl rfl hz49 (fun c50 => ?_) (fun c50 => absurd c50 (by omega))
                refine h_iconst (pc' := 121) (x := (Int32.ofInt 1)) rfl rfl rfl ?_
                refine h_goto (pc' := 125) rfl rfl ?_
                refine h_put (pc' := 128) rfl rfl rfl rfl rfl rfl ci_1 (h_fb ci_1 (by omega)) ?_
                have Is51 : h_I (h_up σ 98 7 1) := (if_98_7 hI (by omega))
                have Fs51 := (F00.up (q := 98) (a := 7) (v := 1) rfl)
                have es51_0 : h_up σ 98 7 1 98 15 = σ 98 15 := rfl
                have es51_1 : h_up σ 98 7 1 98 16 = σ 98 16 := rfl
                have es51_2 : h_up σ 98 7 1 98 17 = σ 98 17 := rfl
                have es51_3 : h_up σ 98 7 1 98 18 = σ 98 18 := rfl
                have es51_4 : h_up σ 98 7 1 98 13 = σ 98 13 := rfl
                have es51_5 : h_up σ 98 7 1 98 5 = σ 98 5 := rfl
                have es51_6 : h_up σ 98 7 1 98 6 = σ 98 6 := rfl
                have es51_7 : h_up σ 98 7 1 101 18 = σ 101 18 := rfl
                have es51_8 : h_up σ 98 7 1 101 25 = σ 101 25 := rfl
                generalize h_up σ 98 7 1 = s51 at Is51 Fs51 es51_0 es51_1 es51_2 es51_3 es51_4 es51_5 es51_6 es51_7 es51_8 ⊢
                refine h_aload_n (pc' := 129) rfl rfl rfl ?_
                refine h_call (sp := false) (pc' := 132) (M := [(0, .ref 98)]) rfl rfl rfl rfl rfl rfl rfl rfl ?_
                refine v_step _ Is51  (fun s53 Is53 Gs53 ps53_0 ps53_1 ps53_2 => h_Kn ?_)
                have Fs53 := (Gs53.l1).tr Fs51
                have es53_5 : s53 98 5 = s51 98 5 := Gs53 98 5 rfl
                have es53_6 : s53 98 6 = s51 98 6 := Gs53 98 6 rfl
                have es53_7 : s53 101 18 = s51 101 18 := Gs53 101 18 rfl
                have es53_8 : s53 101 25 = s51 101 25 := Gs53 101 25 rfl
                refine h_aload_n (pc' := 133) rfl rfl rfl ?_
                refine h_getI (pc' := 136) (v := s53 98 13) rfl rfl rfl rfl rfl rfl (fun z54 hz54 => ?_)
                have tz54 := tf_98_13 Is53
                refine h_zle (tg := 140) (pc' := 139) rfl rfl rfl hz54 (fun c55 => ?_) (fun c55 => ?_)
                · refine h_aload_n (pc' := 141) rfl rfl rfl ?_
                  refine h_iload_n (pc' := 142) rfl rfl rfl ?_
                  refine h_call (sp := false) (pc' := 145) (M := [(0, .ref 98), (1, .int r1)]) rfl rfl rfl rfl rfl rfl rfl rfl ?_
                  refine v_readMore _ Is53 r1 _ hr1 (by omega) (by omega) (by omega) (by omega) (by omega) (fun s57 Is57 Gs57 ps57_0 ps57_1 => h_Kn ?_)
                  have Fs57 := (Gs57).tr Fs53
                  refine h_aload_n (pc' := 146) rfl rfl rfl ?_
                  refine h_getI (pc' := 149) (v := s57 98 13) rfl rfl rfl rfl rfl rfl (fun z58 hz58 => ?_)
                  have tz58 := tf_98_13 Is57
                  refine h_zne (tg := 165) (pc' := 152) rfl rfl rfl hz58 (fun c59 => ?_) (fun c59 => ?_)
                  · refine h_aload_n (pc' := 166) rfl rfl rfl ?_
                    refine h_call (sp := false) (pc' := 169) (M := [(0, .ref 98)]) rfl rfl rfl rfl rfl rfl rfl rfl ?_
                    refine v_step _ Is57  (fun s61 Is61 Gs61 ps61_0 ps61_1 ps61_2 => h_Kn ?_)
                    have Fs61 := (Gs61.l1).tr Fs57
                    have es61_5 : s61 98 5 = s57 98 5 := Gs61 98 5 rfl
                    have es61_6 : s61 98 6 = s57 98 6 := Gs61 98 6 rfl
                    have es61_7 : s61 101 18 = s57 101 18 := Gs61 101 18 rfl
                    have es61_8 : s61 101 25 = s57 101 25 := Gs61 101 25 rfl
                    exact h_vret rfl rfl (kk _ Is61 Fs61 (by omega) (by omega))
                  · refine h_aload_n (pc' := 153) rfl rfl rfl ?_
                    refine h_getI (pc' := 156) (v := s57 98 17) rfl rfl rfl rfl rfl rfl (fun z62 hz62 => ?_)
                    have tz62 := tf_98_17 Is57
                    refine h_iconst (pc' := 157) (x := (Int32.ofInt 3)) rfl rfl rfl ?_
                    refine h_ceq (tg := 165) (pc' := 160) rfl rfl rfl hz62 ci_3 (fun c63 => ?_) (fun c63 => ?_)
                    · refine h_aload_n (pc' := 166) rfl rfl rfl ?_
                      refine h_call (sp := false) (pc' := 169) (M := [(0, .ref 98)]) rfl rfl rfl rfl rfl rfl rfl rfl ?_
                      refine v_step _ Is57  (fun s65 Is65 Gs65 ps65_0 ps65_1 ps65_2 => h_Kn ?_)
                      have Fs65 := (Gs65.l1).tr Fs57
                      have es65_5 : s65 98 5 = s57 98 5 := Gs65 98 5 rfl
                      have es65_6 : s65 98 6 = s57 98 6 := Gs65 98 6 rfl
                      have es65_7 : s65 101 18 = s57 101 18 := Gs65 101 18 rfl
                      have es65_8 : s65 101 25 = s57 101 25 := Gs65 101 25 rfl
                      exact h_vret rfl rfl (kk _ Is65 Fs65 (by omega) (by omega))
                    · refine h_aload_n (pc' := 161) rfl rfl rfl ?_
                      refine h_iconst (pc' := 162) (x := (Int32.ofInt 2)) rfl rfl rfl ?_
                      refine h_call (sp := false) (pc' := 165) (M := [(0, .ref 98), (1, .int (Int32.ofInt 2))]) rfl rfl rfl rfl rfl rfl rfl rfl ?_
                      refine h_aload_n (pc' := 1) rfl rfl rfl ?_
                      refine h_getI (pc' := 4) (v := s57 98 13) rfl rfl rfl rfl rfl rfl (fun z66 hz66 => ?_)
                      have tz66 := tf_98_13 Is57
                      refine h_zne (tg := 20) (pc' := 7) rfl rfl rfl hz66 (fun c67 => absurd c67 (by omega)) (fun c67 => ?_)
                      refine h_aload_n (pc' := 8) rfl rfl rfl ?_
                      refine h_iload_n (pc' := 9) rfl rfl rfl ?_
                      refine h_put (pc' := 12) rfl rfl rfl rfl rfl rfl ci_2 rfl ?_
                      have Is68 : h_I (h_up s57 98 13 2) := (if_98_13 Is57 (by omega))
                      have Fs68 := (Fs57.up (q := 98) (a := 13) (v := 2) rfl)
                      have es68_0 : h_up s57 98 13 2 98 15 = s57 98 15 := rfl
                      have es68_1 : h_up s57 98 13 2 98 16 = s57 98 16 := rfl
                      have es68_2 : h_up s57 98 13 2 98 17 = s57 98 17 := rfl
                      have es68_3 : h_up s57 98 13 2 98 18 = s57 98 18 := rfl
                      have es68_4 : h_up s57 98 13 2 98 13 = 2 := rfl
                      have es68_5 : h_up s57 98 13 2 98 5 = s57 98 5 := rfl
                      have es68_6 : h_up s57 98 13 2 98 6 = s57 98 6 := rfl
                      have es68_7 : h_up s57 98 13 2 101 18 = s57 101 18 := rfl
                      have es68_8 : h_up s57 98 13 2 101 25 = s57 101 25 := rfl
                      generalize h_up s57 98 13 2 = s68 at Is68 Fs68 es68_0 es68_1 es68_2 es68_3 es68_4 es68_5 es68_6 es68_7 es68_8 ⊢
                      refine h_aload_n (pc' := 13) rfl rfl rfl ?_
                      refine h_aload_n (pc' := 14) rfl rfl rfl ?_
                      refine h_getI (pc' := 17) (v := s68 98 16) rfl rfl rfl rfl rfl rfl (fun z69 hz69 => ?_)
                      have tz69 := tf_98_16 Is68
                      refine h_put (pc' := 20) rfl rfl rfl rfl rfl rfl hz69 rfl ?_
                      have Is70 : h_I (h_up s68 98 14 (s68 98 16)) := (if_98_14 Is68 (h_rgv hz69))
                      have Fs70 := (Fs68.up (q := 98) (a := 14) (v := (s68 98 16)) rfl)
                      have es70_0 : h_up s68 98 14 (s68 98 16) 98 15 = s68 98 15 := rfl
                      have es70_1 : h_up s68 98 14 (s68 98 16) 98 16 = s68 98 16 := rfl
                      have es70_2 : h_up s68 98 14 (s68 98 16) 98 17 = s68 98 17 := rfl
                      have es70_3 : h_up s68 98 14 (s68 98 16) 98 18 = s68 98 18 := rfl
                      have es70_4 : h_up s68 98 14 (s68 98 16) 98 13 = s68 98 13 := rfl
                      have es70_5 : h_up s68 98 14 (s68 98 16) 98 5 = s68 98 5 := rfl
                      have es70_6 : h_up s68 98 14 (s68 98 16) 98 6 = s68 98 6 := rfl
                      have es70_7 : h_up s68 98 14 (s68 98 16) 101 18 = s68 101 18 := rfl
                      have es70_8 : h_up s68 98 14 (s68 98 16) 101 25 = s68 101 25 := rfl
                      generalize h_up s68 98 14 (s68 98 16) = s70 at Is70 Fs70 es70_0 es70_1 es70_2 es70_3 es70_4 es70_5 es70_6 es70_7 es70_8 ⊢
                      refine h_vret rfl rfl (h_Kn ?_)
                      refine h_aload_n (pc' := 166) rfl rfl rfl ?_
                      refine h_call (sp := false) (pc' := 169) (M := [(0, .ref 98)]) rfl rfl rfl rfl rfl rfl rfl rfl ?_
                      refine v_step _ Is70  (fun s72 Is72 Gs72 ps72_0 ps72_1 ps72_2 => h_Kn ?_)
                      have Fs72 := (Gs72.l1).tr Fs70
                      have es72_5 : s72 98 5 = s70 98 5 := Gs72 98 5 rfl
                      have es72_6 : s72 98 6 = s70 98 6 := Gs72 98 6 rfl
                      have es72_7 : s72 101 18 = s70 101 18 := Gs72 101 18 rfl
                      have es72_8 : s72 101 25 = s70 101 25 := Gs72 101 25 rfl
                      exact h_vret rfl rfl (kk _ Is72 Fs72 (by omega) (by omega))
                · exact h_vret rfl rfl (kk _ Is53 Fs53 (by omega) (by omega))
              · refine h_aload_n (pc' := 8) rfl rfl rfl ?_
                refine h_iload_n (pc' := 9) rfl rfl rfl ?_
                refine h_put (pc' := 12) rfl rfl rfl rfl rfl rfl ci_4 rfl ?_
                have Is73 : h_I (h_up σ 98 13 4) := (if_98_13 hI (by omega))
                have Fs73 := (F00.up (q := 98) (a := 13) (v := 4) rfl)
                have es73_0 : h_up σ 98 13 4 98 15 = σ 98 15 := rfl
                have es73_1 : h_up σ 98 13 4 98 16 = σ 98 16 := rfl
                have es73_2 : h_up σ 98 13 4 98 17 = σ 98 17 := rfl
                have es73_3 : h_up σ 98 13 4 98 18 = σ 98 18 := rfl
                have es73_4 : h_up σ 98 13 4 98 13 = 4 := rfl
                have es73_5 : h_up σ 98 13 4 98 5 = σ 98 5 := rfl
                have es73_6 : h_up σ 98 13 4 98 6 = σ 98 6 := rfl
                have es73_7 : h_up σ 98 13 4 101 18 = σ 101 18 := rfl
                have es73_8 : h_up σ 98 13 4 101 25 = σ 101 25 := rfl
                generalize h_up σ 98 13 4 = s73 at Is73 Fs73 es73_0 es73_1 es73_2 es73_3 es73_4 es73_5 es73_6 es73_7 es73_8 ⊢
                refine h_aload_n (pc' := 13) rfl rfl rfl ?_
                refine h_aload_n (pc' := 14) rfl rfl rfl ?_
                refine h_getI (pc' := 17) (v := s73 98 16) rfl rfl rfl rfl rfl rfl (fun z74 hz74 => ?_)
                have tz74 := tf_98_16 Is73
                refine h_put (pc' := 20) rfl rfl rfl rfl rfl rfl hz74 rfl ?_
                have Is75 : h_I (h_up s73 98 14 (s73 98 16)) := (if_98_14 Is73 (h_rgv hz74))
                have Fs75 := (Fs73.up (q := 98) (a := 14) (v := (s73 98 16)) rfl)
                have es75_0 : h_up s73 98 14 (s73 98 16) 98 15 = s73 98 15 := rfl
                have es75_1 : h_up s73 98 14 (s73 98 16) 98 16 = s73 98 16 := rfl
                have es75_2 : h_up s73 98 14 (s73 98 16) 98 17 = s73 98 17 := rfl
                have es75_3 : h_up s73 98 14 (s73 98 16) 98 18 = s73 98 18 := rfl
                have es75_4 : h_up s73 98 14 (s73 98 16) 98 13 = s73 98 13 := rfl
                have es75_5 : h_up s73 98 14 (s73 98 16) 98 5 = s73 98 5 := rfl
                have es75_6 : h_up s73 98 14 (s73 98 16) 98 6 = s73 98 6 := rfl
                have es75_7 : h_up s73 98 14 (s73 98 16) 101 18 = s73 101 18 := rfl
                have es75_8 : h_up s73 98 14 (s73 98 16) 101 25 = s73 101 25 := rfl
                generalize h_up s73 98 14 (s73 98 16) = s75 at Is75 Fs75 es75_0 es75_1 es75_2 es75_3 es75_4 es75_5 es75_6 es75_7 es75_8 ⊢
                refine h_vret rfl rfl (h_Kn ?_)
                refine h_aload_n (pc' := 107) rfl rfl rfl ?_
                refine h_aload_n (pc' := 108) rfl rfl rfl ?_
                refine h_getI (pc' := 111) (v := s75 98 7) rfl rfl rfl rfl rfl rfl (fun z76 hz76 => ?_)
                have tz76 := tf_98_7 Is75
                refine h_zne (tg := 120) (pc' := 114) rfl rfl rfl hz76 (fun c77 => ?_) (fun c77 => ?_)
                · refine h_iconst (pc' := 121) (x := (Int32.ofInt 1)) rfl rfl rfl ?_
                  refine h_goto (pc' := 125) rfl rfl ?_
                  refine h_put (pc' := 128) rfl rfl rfl rfl rfl rfl ci_1 (h_fb ci_1 (by omega)) ?_
                  have Is78 : h_I (h_up s75 98 7 1) := (if_98_7 Is75 (by omega))
                  have Fs78 := (Fs75.up (q := 98) (a := 7) (v := 1) rfl)
                  have es78_0 : h_up s75 98 7 1 98 15 = s75 98 15 := rfl
                  have es78_1 : h_up s75 98 7 1 98 16 = s75 98 16 := rfl
                  have es78_2 : h_up s75 98 7 1 98 17 = s75 98 17 := rfl
                  have es78_3 : h_up s75 98 7 1 98 18 = s75 98 18 := rfl
                  have es78_4 : h_up s75 98 7 1 98 13 = s75 98 13 := rfl
                  have es78_5 : h_up s75 98 7 1 98 5 = s75 98 5 := rfl
                  have es78_6 : h_up s75 98 7 1 98 6 = s75 98 6 := rfl
                  have es78_7 : h_up s75 98 7 1 101 18 = s75 101 18 := rfl
                  have es78_8 : h_up s75 98 7 1 101 25 = s75 101 25 := rfl
                  generalize h_up s75 98 7 1 = s78 at Is78 Fs78 es78_0 es78_1 es78_2 es78_3 es78_4 es78_5 es78_6 es78_7 es78_8 ⊢
                  refine h_aload_n (pc' := 129) rfl rfl rfl ?_
                  refine h_call (sp := false) (pc' := 132) (M := [(0, .ref 98)]) rfl rfl rfl rfl rfl rfl rfl rfl ?_
                  refine v_step _ Is78  (fun s80 Is80 Gs80 ps80_0 ps80_1 ps80_2 => h_Kn ?_)
                  have Fs80 := (Gs80.l1).tr Fs78
                  have es80_5 : s80 98 5 = s78 98 5 := Gs80 98 5 rfl
                  have es80_6 : s80 98 6 = s78 98 6 := Gs80 98 6 rfl
                  have es80_7 : s80 101 18 = s78 101 18 := Gs80 101 18 rfl
                  have es80_8 : s80 101 25 = s78 101 25 := Gs80 101 25 rfl
                  refine h_aload_n (pc' := 133) rfl rfl rfl ?_
                  refine h_getI (pc' := 136) (v := s80 98 13) rfl rfl rfl rfl rfl rfl (fun z81 hz81 => ?_)
                  have tz81 := tf_98_13 Is80
                  refine h_zle (tg := 140) (pc' := 139) rfl rfl rfl hz81 (fun c82 => ?_) (fun c82 => ?_)
                  · refine h_aload_n (pc' := 141) rfl rfl rfl ?_
                    refine h_iload_n (pc' := 142) rfl rfl rfl ?_
                    refine h_call (sp := false) (pc' := 145) (M := [(0, .ref 98), (1, .int r1)]) rfl rfl rfl rfl rfl rfl rfl rfl ?_
                    refine v_readMore _ Is80 r1 _ hr1 (by omega) (by omega) (by omega) (by omega) (by omega) (fun s84 Is84 Gs84 ps84_0 ps84_1 => h_Kn ?_)
                    have Fs84 := (Gs84).tr Fs80
                    refine h_aload_n (pc' := 146) rfl rfl rfl ?_
                    refine h_getI (pc' := 149) (v := s84 98 13) rfl rfl rfl rfl rfl rfl (fun z85 hz85 => ?_)
                    have tz85 := tf_98_13 Is84
                    refine h_zne (tg := 165) (pc' := 152) rfl rfl rfl hz85 (fun c86 => ?_) (fun c86 => ?_)
                    · refine h_aload_n (pc' := 166) rfl rfl rfl ?_
                      refine h_call (sp := false) (pc' := 169) (M := [(0, .ref 98)]) rfl rfl rfl rfl rfl rfl rfl rfl ?_
                      refine v_step _ Is84  (fun s88 Is88 Gs88 ps88_0 ps88_1 ps88_2 => h_Kn ?_)
                      have Fs88 := (Gs88.l1).tr Fs84
                      have es88_5 : s88 98 5 = s84 98 5 := Gs88 98 5 rfl
                      have es88_6 : s88 98 6 = s84 98 6 := Gs88 98 6 rfl
                      have es88_7 : s88 101 18 = s84 101 18 := Gs88 101 18 rfl
                      have es88_8 : s88 101 25 = s84 101 25 := Gs88 101 25 rfl
                      exact h_vret rfl rfl (kk _ Is88 Fs88 (by omega) (by omega))
                    · refine h_aload_n (pc' := 153) rfl rfl rfl ?_
                      refine h_getI (pc' := 156) (v := s84 98 17) rfl rfl rfl rfl rfl rfl (fun z89 hz89 => ?_)
                      have tz89 := tf_98_17 Is84
                      refine h_iconst (pc' := 157) (x := (Int32.ofInt 3)) rfl rfl rfl ?_
                      refine h_ceq (tg := 165) (pc' := 160) rfl rfl rfl hz89 ci_3 (fun c90 => ?_) (fun c90 => ?_)
                      · refine h_aload_n (pc' := 166) rfl rfl rfl ?_
                        refine h_call (sp := false) (pc' := 169) (M := [(0, .ref 98)]) rfl rfl rfl rfl rfl rfl rfl rfl ?_
                        refine v_step _ Is84  (fun s92 Is92 Gs92 ps92_0 ps92_1 ps92_2 => h_Kn ?_)
                        have Fs92 := (Gs92.l1).tr Fs84
                        have es92_5 : s92 98 5 = s84 98 5 := Gs92 98 5 rfl
                        have es92_6 : s92 98 6 = s84 98 6 := Gs92 98 6 rfl
                        have es92_7 : s92 101 18 = s84 101 18 := Gs92 101 18 rfl
                        have es92_8 : s92 101 25 = s84 101 25 := Gs92 101 25 rfl
                        exact h_vret rfl rfl (kk _ Is92 Fs92 (by omega) (by omega))
                      · refine h_aload_n (pc' := 161) rfl rfl rfl ?_
                        refine h_iconst (pc' := 162) (x := (Int32.ofInt 2)) rfl rfl rfl ?_
                        refine h_call (sp := false) (pc' := 165) (M := [(0, .ref 98), (1, .int (Int32.ofInt 2))]) rfl rfl rfl rfl rfl rfl rfl rfl ?_
                        refine h_aload_n (pc' := 1) rfl rfl rfl ?_
                        refine h_getI (pc' := 4) (v := s84 98 13) rfl rfl rfl rfl rfl rfl (fun z93 hz93 => ?_)
                        have tz93 := tf_98_13 Is84
                        refine h_zne (tg := 20) (pc' := 7) rfl rfl rfl hz93 (fun c94 => absurd c94 (by omega)) (fun c94 => ?_)
                        refine h_aload_n (pc' := 8) rfl rfl rfl ?_
                        refine h_iload_n (pc' := 9) rfl rfl rfl ?_
                        refine h_put (pc' := 12) rfl rfl rfl rfl rfl rfl ci_2 rfl ?_
                        have Is95 : h_I (h_up s84 98 13 2) := (if_98_13 Is84 (by omega))
                        have Fs95 := (Fs84.up (q := 98) (a := 13) (v := 2) rfl)
                        have es95_0 : h_up s84 98 13 2 98 15 = s84 98 15 := rfl
                        have es95_1 : h_up s84 98 13 2 98 16 = s84 98 16 := rfl
                        have es95_2 : h_up s84 98 13 2 98 17 = s84 98 17 := rfl
                        have es95_3 : h_up s84 98 13 2 98 18 = s84 98 18 := rfl
                        have es95_4 : h_up s84 98 13 2 98 13 = 2 := rfl
                        have es95_5 : h_up s84 98 13 2 98 5 = s84 98 5 := rfl
                        have es95_6 : h_up s84 98 13 2 98 6 = s84 98 6 := rfl
                        have es95_7 : h_up s84 98 13 2 101 18 = s84 101 18 := rfl
                        have es95_8 : h_up s84 98 13 2 101 25 = s84 101 25 := rfl
                        generalize h_up s84 98 13 2 = s95 at Is95 Fs95 es95_0 es95_1 es95_2 es95_3 es95_4 es95_5 es95_6 es95_7 es95_8 ⊢
                        refine h_aload_n (pc' := 13) rfl rfl rfl ?_
                        refine h_aload_n (pc' := 14) rfl rfl rfl ?_
                        refine h_getI (pc' := 17) (v := s95 98 16) rfl rfl rfl rfl rfl rfl (fun z96 hz96 => ?_)
                        have tz96 := tf_98_16 Is95
                        refine h_put (pc' := 20) rfl rfl rfl rfl rfl rfl hz96 rfl ?_
                        have Is97 : h_I (h_up s95 98 14 (s95 98 16)) := (if_98_14 Is95 (h_rgv hz96))
                        have Fs97 := (Fs95.up (q := 98) (a := 14) (v := (s95 98 16)) rfl)
                        have es97_0 : h_up s95 98 14 (s95 98 16) 98 15 = s95 98 15 := rfl
                        have es97_1 : h_up s95 98 14 (s95 98 16) 98 16 = s95 98 16 := rfl
                        have es97_2 : h_up s95 98 14 (s95 98 16) 98 17 = s95 98 17 := rfl
                        have es97_3 : h_up s95 98 14 (s95 98 16) 98 18 = s95 98 18 := rfl
                        have es97_4 : h_up s95 98 14 (s95 98 16) 98 13 = s95 98 13 := rfl
                        have es97_5 : h_up s95 98 14 (s95 98 16) 98 5 = s95 98 5 := rfl
                        have es97_6 : h_up s95 98 14 (s95 98 16) 98 6 = s95 98 6 := rfl
                        have es97_7 : h_up s95 98 14 (s95 98 16) 101 18 = s95 101 18 := rfl
                        have es97_8 : h_up s95 98 14 (s95 98 16) 101 25 = s95 101 25 := rfl
                        generalize h_up s95 98 14 (s95 98 16) = s97 at Is97 Fs97 es97_0 es97_1 es97_2 es97_3 es97_4 es97_5 es97_6 es97_7 es97_8 ⊢
                        refine h_vret rfl rfl (h_Kn ?_)
                        refine h_aload_n (pc' := 166) rfl rfl rfl ?_
                        refine h_call (sp := false) (pc' := 169) (M := [(0, .ref 98)]) rfl rfl rfl rfl rfl rfl rfl rfl ?_
                        refine v_step _ Is97  (fun s99 Is99 Gs99 ps99_0 ps99_1 ps99_2 => h_Kn ?_)
                        have Fs99 := (Gs99.l1).tr Fs97
                        have es99_5 : s99 98 5 = s97 98 5 := Gs99 98 5 rfl
                        have es99_6 : s99 98 6 = s97 98 6 := Gs99 98 6 rfl
                        have es99_7 : s99 101 18 = s97 101 18 := Gs99 101 18 rfl
                        have es99_8 : s99 101 25 = s97 101 25 := Gs99 101 25 rfl
                        exact h_vret rfl rfl (kk _ Is99 Fs99 (by omega) (by omega))
                  · exact h_vret rfl rfl (kk _ Is80 Fs80 (by omega) (by omega))
                · refine h_iload_n (pc' := 115) rfl rfl rfl ?_
                  refine h_bipush (pc' := 117) (x := (Int32.ofInt 7)) rfl rfl cb_7 ?_
                  refine h_cne (tg := 124) (pc' := 120) rfl rfl rfl hr1 ci_7 (fun c100 => absurd c100 (by omega)) (fun c100 => ?_)
                  refine h_iconst (pc' := 121) (x := (Int32.ofInt 1)) rfl rfl rfl ?_
                  refine h_goto (pc' := 125) rfl rfl ?_
                  refine h_put (pc' := 128) rfl rfl rfl rfl rfl rfl ci_1 (h_fb ci_1 (by omega)) ?_
                  have Is101 : h_I (h_up s75 98 7 1) := (if_98_7 Is75 (by omega))
                  have Fs101 := (Fs75.up (q := 98) (a := 7) (v := 1) rfl)
                  have es101_0 : h_up s75 98 7 1 98 15 = s75 98 15 := rfl
                  have es101_1 : h_up s75 98 7 1 98 16 = s75 98 16 := rfl
                  have es101_2 : h_up s75 98 7 1 98 17 = s75 98 17 := rfl
                  have es101_3 : h_up s75 98 7 1 98 18 = s75 98 18 := rfl
                  have es101_4 : h_up s75 98 7 1 98 13 = s75 98 13 := rfl
                  have es101_5 : h_up s75 98 7 1 98 5 = s75 98 5 := rfl
                  have es101_6 : h_up s75 98 7 1 98 6 = s75 98 6 := rfl
                  have es101_7 : h_up s75 98 7 1 101 18 = s75 101 18 := rfl
                  have es101_8 : h_up s75 98 7 1 101 25 = s75 101 25 := rfl
                  generalize h_up s75 98 7 1 = s101 at Is101 Fs101 es101_0 es101_1 es101_2 es101_3 es101_4 es101_5 es101_6 es101_7 es101_8 ⊢
                  refine h_aload_n (pc' := 129) rfl rfl rfl ?_
                  refine h_call (sp := false) (pc' := 132) (M := [(0, .ref 98)]) rfl rfl rfl rfl rfl rfl rfl rfl ?_
                  refine v_step _ Is101  (fun s103 Is103 Gs103 ps103_0 ps103_1 ps103_2 => h_Kn ?_)
                  have Fs103 := (Gs103.l1).tr Fs101
                  have es103_5 : s103 98 5 = s101 98 5 := Gs103 98 5 rfl
                  have es103_6 : s103 98 6 = s101 98 6 := Gs103 98 6 rfl
                  have es103_7 : s103 101 18 = s101 101 18 := Gs103 101 18 rfl
                  have es103_8 : s103 101 25 = s101 101 25 := Gs103 101 25 rfl
                  refine h_aload_n (pc' := 133) rfl rfl rfl ?_
                  refine h_getI (pc' := 136) (v := s103 98 13) rfl rfl rfl rfl rfl rfl (fun z104 hz104 => ?_)
                  have tz104 := tf_98_13 Is103
                  refine h_zle (tg := 140) (pc' := 139) rfl rfl rfl hz104 (fun c105 => ?_) (fun c105 => ?_)
                  · refine h_aload_n (pc' := 141) rfl rfl rfl ?_
                    refine h_iload_n (pc' := 142) rfl rfl rfl ?_
                    refine h_call (sp := false) (pc' := 145) (M := [(0, .ref 98), (1, .int r1)]) rfl rfl rfl rfl rfl rfl rfl rfl ?_
                    refine v_readMore _ Is103 r1 _ hr1 (by omega) (by omega) (by omega) (by omega) (by omega) (fun s107 Is107 Gs107 ps107_0 ps107_1 => h_Kn ?_)
                    have Fs107 := (Gs107).tr Fs103
                    refine h_aload_n (pc' := 146) rfl rfl rfl ?_
                    refine h_getI (pc' := 149) (v := s107 98 13) rfl rfl rfl rfl rfl rfl (fun z108 hz108 => ?_)
                    have tz108 := tf_98_13 Is107
                    refine h_zne (tg := 165) (pc' := 152) rfl rfl rfl hz108 (fun c109 => ?_) (fun c109 => ?_)
                    · refine h_aload_n (pc' := 166) rfl rfl rfl ?_
                      refine h_call (sp := false) (pc' := 169) (M := [(0, .ref 98)]) rfl rfl rfl rfl rfl rfl rfl rfl ?_
                      refine v_step _ Is107  (fun s111 Is111 Gs111 ps111_0 ps111_1 ps111_2 => h_Kn ?_)
                      have Fs111 := (Gs111.l1).tr Fs107
                      have es111_5 : s111 98 5 = s107 98 5 := Gs111 98 5 rfl
                      have es111_6 : s111 98 6 = s107 98 6 := Gs111 98 6 rfl
                      have es111_7 : s111 101 18 = s107 101 18 := Gs111 101 18 rfl
                      have es111_8 : s111 101 25 = s107 101 25 := Gs111 101 25 rfl
                      exact h_vret rfl rfl (kk _ Is111 Fs111 (by omega) (by omega))
                    · refine h_aload_n (pc' := 153) rfl rfl rfl ?_
                      refine h_getI (pc' := 156) (v := s107 98 17) rfl rfl rfl rfl rfl rfl (fun z112 hz112 => ?_)
                      have tz112 := tf_98_17 Is107
                      refine h_iconst (pc' := 157) (x := (Int32.ofInt 3)) rfl rfl rfl ?_
                      refine h_ceq (tg := 165) (pc' := 160) rfl rfl rfl hz112 ci_3 (fun c113 => ?_) (fun c113 => ?_)
                      · refine h_aload_n (pc' := 166) rfl rfl rfl ?_
                        refine h_call (sp := false) (pc' := 169) (M := [(0, .ref 98)]) rfl rfl rfl rfl rfl rfl rfl rfl ?_
                        refine v_step _ Is107  (fun s115 Is115 Gs115 ps115_0 ps115_1 ps115_2 => h_Kn ?_)
                        have Fs115 := (Gs115.l1).tr Fs107
                        have es115_5 : s115 98 5 = s107 98 5 := Gs115 98 5 rfl
                        have es115_6 : s115 98 6 = s107 98 6 := Gs115 98 6 rfl
                        have es115_7 : s115 101 18 = s107 101 18 := Gs115 101 18 rfl
                        have es115_8 : s115 101 25 = s107 101 25 := Gs115 101 25 rfl
                        exact h_vret rfl rfl (kk _ Is115 Fs115 (by omega) (by omega))
                      · refine h_aload_n (pc' := 161) rfl rfl rfl ?_
                        refine h_iconst (pc' := 162) (x := (Int32.ofInt 2)) rfl rfl rfl ?_
                        refine h_call (sp := false) (pc' := 165) (M := [(0, .ref 98), (1, .int (Int32.ofInt 2))]) rfl rfl rfl rfl rfl rfl rfl rfl ?_
                        refine h_aload_n (pc' := 1) rfl rfl rfl ?_
                        refine h_getI (pc' := 4) (v := s107 98 13) rfl rfl rfl rfl rfl rfl (fun z116 hz116 => ?_)
                        have tz116 := tf_98_13 Is107
                        refine h_zne (tg := 20) (pc' := 7) rfl rfl rfl hz116 (fun c117 => absurd c117 (by omega)) (fun c117 => ?_)
                        refine h_aload_n (pc' := 8) rfl rfl rfl ?_
                        refine h_iload_n (pc' := 9) rfl rfl rfl ?_
                        refine h_put (pc' := 12) rfl rfl rfl rfl rfl rfl ci_2 rfl ?_
                        have Is118 : h_I (h_up s107 98 13 2) := (if_98_13 Is107 (by omega))
                        have Fs118 := (Fs107.up (q := 98) (a := 13) (v := 2) rfl)
                        have es118_0 : h_up s107 98 13 2 98 15 = s107 98 15 := rfl
                        have es118_1 : h_up s107 98 13 2 98 16 = s107 98 16 := rfl
                        have es118_2 : h_up s107 98 13 2 98 17 = s107 98 17 := rfl
                        have es118_3 : h_up s107 98 13 2 98 18 = s107 98 18 := rfl
                        have es118_4 : h_up s107 98 13 2 98 13 = 2 := rfl
                        have es118_5 : h_up s107 98 13 2 98 5 = s107 98 5 := rfl
                        have es118_6 : h_up s107 98 13 2 98 6 = s107 98 6 := rfl
                        have es118_7 : h_up s107 98 13 2 101 18 = s107 101 18 := rfl
                        have es118_8 : h_up s107 98 13 2 101 25 = s107 101 25 := rfl
                        generalize h_up s107 98 13 2 = s118 at Is118 Fs118 es118_0 es118_1 es118_2 es118_3 es118_4 es118_5 es118_6 es118_7 es118_8 ⊢
                        refine h_aload_n (pc' := 13) rfl rfl rfl ?_
                        refine h_aload_n (pc' := 14) rfl rfl rfl ?_
                        refine h_getI (pc' := 17) (v := s118 98 16) rfl rfl rfl rfl rfl rfl (fun z119 hz119 => ?_)
                        have tz119 := tf_98_16 Is118
                        refine h_put (pc' := 20) rfl rfl rfl rfl rfl rfl hz119 rfl ?_
                        have Is120 : h_I (h_up s118 98 14 (s118 98 16)) := (if_98_14 Is118 (h_rgv hz119))
                        have Fs120 := (Fs118.up (q := 98) (a := 14) (v := (s118 98 16)) rfl)
                        have es120_0 : h_up s118 98 14 (s118 98 16) 98 15 = s118 98 15 := rfl
                        have es120_1 : h_up s118 98 14 (s118 98 16) 98 16 = s118 98 16 := rfl
                        have es120_2 : h_up s118 98 14 (s118 98 16) 98 17 = s118 98 17 := rfl
                        have es120_3 : h_up s118 98 14 (s118 98 16) 98 18 = s118 98 18 := rfl
                        have es120_4 : h_up s118 98 14 (s118 98 16) 98 13 = s118 98 13 := rfl
                        have es120_5 : h_up s118 98 14 (s118 98 16) 98 5 = s118 98 5 := rfl
                        have es120_6 : h_up s118 98 14 (s118 98 16) 98 6 = s118 98 6 := rfl
                        have es120_7 : h_up s118 98 14 (s118 98 16) 101 18 = s118 101 18 := rfl
                        have es120_8 : h_up s118 98 14 (s118 98 16) 101 25 = s118 101 25 := rfl
                        generalize h_up s118 98 14 (s118 98 16) = s120 at Is120 Fs120 es120_0 es120_1 es120_2 es120_3 es120_4 es120_5 es120_6 es120_7 es120_8 ⊢
                        refine h_vret rfl rfl (h_Kn ?_)
                        refine h_aload_n (pc' := 166) rfl rfl rfl ?_
                        refine h_call (sp := false) (pc' := 169) (M := [(0, .ref 98)]) rfl rfl rfl rfl rfl rfl rfl rfl ?_
                        refine v_step _ Is120  (fun s122 Is122 Gs122 ps122_0 ps122_1 ps122_2 => h_Kn ?_)
                        have Fs122 := (Gs122.l1).tr Fs120
                        have es122_5 : s122 98 5 = s120 98 5 := Gs122 98 5 rfl
                        have es122_6 : s122 98 6 = s120 98 6 := Gs122 98 6 rfl
                        have es122_7 : s122 101 18 = s120 101 18 := Gs122 101 18 rfl
                        have es122_8 : s122 101 25 = s120 101 25 := Gs122 101 25 rfl
                        exact h_vret rfl rfl (kk _ Is122 Fs122 (by omega) (by omega))
                  · exact h_vret rfl rfl (kk _ Is103 Fs103 (by omega) (by omega))
          · refine h_aload_n (pc' := 76) rfl rfl rfl ?_
            refine h_getI (pc' := 79) (v := σ 98 6) rfl rfl rfl rfl rfl rfl (fun z123 hz123 => ?_)
            have tz123 := tf_98_6 hI
            refine h_iconst (pc' := 80) (x := (Int32.ofInt 3)) rfl rfl rfl ?_
            refine h_cne (tg := 88) (pc' := 83) rfl rfl rfl hz123 ci_3 (fun c124 => ?_) (fun c124 => ?_)
            · refine h_iload_n (pc' := 89) rfl rfl rfl ?_
              refine h_bipush (pc' := 91) (x := (Int32.ofInt 7)) rfl rfl cb_7 ?_
              refine h_cne (tg := 106) (pc' := 94) rfl rfl rfl hr1 ci_7 (fun c125 => ?_) (fun c125 => absurd c125 (by omega))
              refine h_aload_n (pc' := 107) rfl rfl rfl ?_
              refine h_aload_n (pc' := 108) rfl rfl rfl ?_
              refine h_getI (pc' := 111) (v := σ 98 7) rfl rfl rfl rfl rfl rfl (fun z126 hz126 => ?_)
              have tz126 := tf_98_7 hI
              refine h_zne (tg := 120) (pc' := 114) rfl rfl rfl hz126 (fun c127 => ?_) (fun c127 => ?_)
              · refine h_iconst (pc' := 121) (x := (Int32.ofInt 1)) rfl rfl rfl ?_
                refine h_goto (pc' := 125) rfl rfl ?_
                refine h_put (pc' := 128) rfl rfl rfl rfl rfl rfl ci_1 (h_fb ci_1 (by omega)) ?_
                have Is128 : h_I (h_up σ 98 7 1) := (if_98_7 hI (by omega))
                have Fs128 := (F00.up (q := 98) (a := 7) (v := 1) rfl)
                have es128_0 : h_up σ 98 7 1 98 15 = σ 98 15 := rfl
                have es128_1 : h_up σ 98 7 1 98 16 = σ 98 16 := rfl
                have es128_2 : h_up σ 98 7 1 98 17 = σ 98 17 := rfl
                have es128_3 : h_up σ 98 7 1 98 18 = σ 98 18 := rfl
                have es128_4 : h_up σ 98 7 1 98 13 = σ 98 13 := rfl
                have es128_5 : h_up σ 98 7 1 98 5 = σ 98 5 := rfl
                have es128_6 : h_up σ 98 7 1 98 6 = σ 98 6 := rfl
                have es128_7 : h_up σ 98 7 1 101 18 = σ 101 18 := rfl
                have es128_8 : h_up σ 98 7 1 101 25 = σ 101 25 := rfl
                generalize h_up σ 98 7 1 = s128 at Is128 Fs128 es128_0 es128_1 es128_2 es128_3 es128_4 es128_5 es128_6 es128_7 es128_8 ⊢
                refine h_aload_n (pc' := 129) rfl rfl rfl ?_
                refine h_call (sp := false) (pc' := 132) (M := [(0, .ref 98)]) rfl rfl rfl rfl rfl rfl rfl rfl ?_
                refine v_step _ Is128  (fun s130 Is130 Gs130 ps130_0 ps130_1 ps130_2 => h_Kn ?_)
                have Fs130 := (Gs130.l1).tr Fs128
                have es130_5 : s130 98 5 = s128 98 5 := Gs130 98 5 rfl
                have es130_6 : s130 98 6 = s128 98 6 := Gs130 98 6 rfl
                have es130_7 : s130 101 18 = s128 101 18 := Gs130 101 18 rfl
                have es130_8 : s130 101 25 = s128 101 25 := Gs130 101 25 rfl
                refine h_aload_n (pc' := 133) rfl rfl rfl ?_
                refine h_getI (pc' := 136) (v := s130 98 13) rfl rfl rfl rfl rfl rfl (fun z131 hz131 => ?_)
                have tz131 := tf_98_13 Is130
                refine h_zle (tg := 140) (pc' := 139) rfl rfl rfl hz131 (fun c132 => ?_) (fun c132 => ?_)
                · refine h_aload_n (pc' := 141) rfl rfl rfl ?_
                  refine h_iload_n (pc' := 142) rfl rfl rfl ?_
                  refine h_call (sp := false) (pc' := 145) (M := [(0, .ref 98), (1, .int r1)]) rfl rfl rfl rfl rfl rfl rfl rfl ?_
                  refine v_readMore _ Is130 r1 _ hr1 (by omega) (by omega) (by omega) (by omega) (by omega) (fun s134 Is134 Gs134 ps134_0 ps134_1 => h_Kn ?_)
                  have Fs134 := (Gs134).tr Fs130
                  refine h_aload_n (pc' := 146) rfl rfl rfl ?_
                  refine h_getI (pc' := 149) (v := s134 98 13) rfl rfl rfl rfl rfl rfl (fun z135 hz135 => ?_)
                  have tz135 := tf_98_13 Is134
                  refine h_zne (tg := 165) (pc' := 152) rfl rfl rfl hz135 (fun c136 => ?_) (fun c136 => ?_)
                  · refine h_aload_n (pc' := 166) rfl rfl rfl ?_
                    refine h_call (sp := false) (pc' := 169) (M := [(0, .ref 98)]) rfl rfl rfl rfl rfl rfl rfl rfl ?_
                    refine v_step _ Is134  (fun s138 Is138 Gs138 ps138_0 ps138_1 ps138_2 => h_Kn ?_)
                    have Fs138 := (Gs138.l1).tr Fs134
                    have es138_5 : s138 98 5 = s134 98 5 := Gs138 98 5 rfl
                    have es138_6 : s138 98 6 = s134 98 6 := Gs138 98 6 rfl
                    have es138_7 : s138 101 18 = s134 101 18 := Gs138 101 18 rfl
                    have es138_8 : s138 101 25 = s134 101 25 := Gs138 101 25 rfl
                    exact h_vret rfl rfl (kk _ Is138 Fs138 (by omega) (by omega))
                  · refine h_aload_n (pc' := 153) rfl rfl rfl ?_
                    refine h_getI (pc' := 156) (v := s134 98 17) rfl rfl rfl rfl rfl rfl (fun z139 hz139 => ?_)
                    have tz139 := tf_98_17 Is134
                    refine h_iconst (pc' := 157) (x := (Int32.ofInt 3)) rfl rfl rfl ?_
                    refine h_ceq (tg := 165) (pc' := 160) rfl rfl rfl hz139 ci_3 (fun c140 => ?_) (fun c140 => ?_)
                    · refine h_aload_n (pc' := 166) rfl rfl rfl ?_
                      refine h_call (sp := false) (pc' := 169) (M := [(0, .ref 98)]) rfl rfl rfl rfl rfl rfl rfl rfl ?_
                      refine v_step _ Is134  (fun s142 Is142 Gs142 ps142_0 ps142_1 ps142_2 => h_Kn ?_)
                      have Fs142 := (Gs142.l1).tr Fs134
                      have es142_5 : s142 98 5 = s134 98 5 := Gs142 98 5 rfl
                      have es142_6 : s142 98 6 = s134 98 6 := Gs142 98 6 rfl
                      have es142_7 : s142 101 18 = s134 101 18 := Gs142 101 18 rfl
                      have es142_8 : s142 101 25 = s134 101 25 := Gs142 101 25 rfl
                      exact h_vret rfl rfl (kk _ Is142 Fs142 (by omega) (by omega))
                    · refine h_aload_n (pc' := 161) rfl rfl rfl ?_
                      refine h_iconst (pc' := 162) (x := (Int32.ofInt 2)) rfl rfl rfl ?_
                      refine h_call (sp := false) (pc' := 165) (M := [(0, .ref 98), (1, .int (Int32.ofInt 2))]) rfl rfl rfl rfl rfl rfl rfl rfl ?_
                      refine h_aload_n (pc' := 1) rfl rfl rfl ?_
                      refine h_getI (pc' := 4) (v := s134 98 13) rfl rfl rfl rfl rfl rfl (fun z143 hz143 => ?_)
                      have tz143 := tf_98_13 Is134
                      refine h_zne (tg := 20) (pc' := 7) rfl rfl rfl hz143 (fun c144 => absurd c144 (by omega)) (fun c144 => ?_)
                      refine h_aload_n (pc' := 8) rfl rfl rfl ?_
                      refine h_iload_n (pc' := 9) rfl rfl rfl ?_
                      refine h_put (pc' := 12) rfl rfl rfl rfl rfl rfl ci_2 rfl ?_
                      have Is145 : h_I (h_up s134 98 13 2) := (if_98_13 Is134 (by omega))
                      have Fs145 := (Fs134.up (q := 98) (a := 13) (v := 2) rfl)
                      have es145_0 : h_up s134 98 13 2 98 15 = s134 98 15 := rfl
                      have es145_1 : h_up s134 98 13 2 98 16 = s134 98 16 := rfl
                      have es145_2 : h_up s134 98 13 2 98 17 = s134 98 17 := rfl
                      have es145_3 : h_up s134 98 13 2 98 18 = s134 98 18 := rfl
                      have es145_4 : h_up s134 98 13 2 98 13 = 2 := rfl
                      have es145_5 : h_up s134 98 13 2 98 5 = s134 98 5 := rfl
                      have es145_6 : h_up s134 98 13 2 98 6 = s134 98 6 := rfl
                      have es145_7 : h_up s134 98 13 2 101 18 = s134 101 18 := rfl
                      have es145_8 : h_up s134 98 13 2 101 25 = s134 101 25 := rfl
                      generalize h_up s134 98 13 2 = s145 at Is145 Fs145 es145_0 es145_1 es145_2 es145_3 es145_4 es145_5 es145_6 es145_7 es145_8 ⊢
                      refine h_aload_n (pc' := 13) rfl rfl rfl ?_
                      refine h_aload_n (pc' := 14) rfl rfl rfl ?_
                      refine h_getI (pc' := 17) (v := s145 98 16) rfl rfl rfl rfl rfl rfl (fun z146 hz146 => ?_)
                      have tz146 := tf_98_16 Is145
                      refine h_put (pc' := 20) rfl rfl rfl rfl rfl rfl hz146 rfl ?_
                      have Is147 : h_I (h_up s145 98 14 (s145 98 16)) := (if_98_14 Is145 (h_rgv hz146))
                      have Fs147 := (Fs145.up (q := 98) (a := 14) (v := (s145 98 16)) rfl)
                      have es147_0 : h_up s145 98 14 (s145 98 16) 98 15 = s145 98 15 := rfl
                      have es147_1 : h_up s145 98 14 (s145 98 16) 98 16 = s145 98 16 := rfl
                      have es147_2 : h_up s145 98 14 (s145 98 16) 98 17 = s145 98 17 := rfl
                      have es147_3 : h_up s145 98 14 (s145 98 16) 98 18 = s145 98 18 := rfl
                      have es147_4 : h_up s145 98 14 (s145 98 16) 98 13 = s145 98 13 := rfl
                      have es147_5 : h_up s145 98 14 (s145 98 16) 98 5 = s145 98 5 := rfl
                      have es147_6 : h_up s145 98 14 (s145 98 16) 98 6 = s145 98 6 := rfl
                      have es147_7 : h_up s145 98 14 (s145 98 16) 101 18 = s145 101 18 := rfl
                      have es147_8 : h_up s145 98 14 (s145 98 16) 101 25 = s145 101 25 := rfl
                      generalize h_up s145 98 14 (s145 98 16) = s147 at Is147 Fs147 es147_0 es147_1 es147_2 es147_3 es147_4 es147_5 es147_6 es147_7 es147_8 ⊢
                      refine h_vret rfl rfl (h_Kn ?_)
                      refine h_aload_n (pc' := 166) rfl rfl rfl ?_
                      refine h_call (sp := false) (pc' := 169) (M := [(0, .ref 98)]) rfl rfl rfl rfl rfl rfl rfl rfl ?_
                      refine v_step _ Is147  (fun s149 Is149 Gs149 ps149_0 ps149_1 ps149_2 => h_Kn ?_)
                      have Fs149 := (Gs149.l1).tr Fs147
                      have es149_5 : s149 98 5 = s147 98 5 := Gs149 98 5 rfl
                      have es149_6 : s149 98 6 = s147 98 6 := Gs149 98 6 rfl
                      have es149_7 : s149 101 18 = s147 101 18 := Gs149 101 18 rfl
                      have es149_8 : s149 101 25 = s147 101 25 := Gs149 101 25 rfl
                      exact h_vret rfl rfl (kk _ Is149 Fs149 (by omega) (by omega))
                · exact h_vret rfl rfl (kk _ Is130 Fs130 (by omega) (by omega))
              · refine h_iload_n (pc' := 115) rfl rfl rfl ?_
                refine h_bipush (pc' := 117) (x := (Int32.ofInt 7)) rfl rfl cb_7 ?_
                refine h_cne (tg := 124) (pc' := 120) rfl rfl rfl hr1 ci_7 (fun c150 => ?_) (fun c150 => absurd c150 (by omega))
                refine h_iconst (pc' := 125) (x := (Int32.ofInt 0)) rfl rfl rfl ?_
                refine h_put (pc' := 128) rfl rfl rfl rfl rfl rfl ci_0 (h_fb ci_0 (by omega)) ?_
                have Is151 : h_I (h_up σ 98 7 0) := (if_98_7 hI (by omega))
                have Fs151 := (F00.up (q := 98) (a := 7) (v := 0) rfl)
                have es151_0 : h_up σ 98 7 0 98 15 = σ 98 15 := rfl
                have es151_1 : h_up σ 98 7 0 98 16 = σ 98 16 := rfl
                have es151_2 : h_up σ 98 7 0 98 17 = σ 98 17 := rfl
                have es151_3 : h_up σ 98 7 0 98 18 = σ 98 18 := rfl
                have es151_4 : h_up σ 98 7 0 98 13 = σ 98 13 := rfl
                have es151_5 : h_up σ 98 7 0 98 5 = σ 98 5 := rfl
                have es151_6 : h_up σ 98 7 0 98 6 = σ 98 6 := rfl
                have es151_7 : h_up σ 98 7 0 101 18 = σ 101 18 := rfl
                have es151_8 : h_up σ 98 7 0 101 25 = σ 101 25 := rfl
                generalize h_up σ 98 7 0 = s151 at Is151 Fs151 es151_0 es151_1 es151_2 es151_3 es151_4 es151_5 es151_6 es151_7 es151_8 ⊢
                refine h_aload_n (pc' := 129) rfl rfl rfl ?_
                refine h_call (sp := false) (pc' := 132) (M := [(0, .ref 98)]) rfl rfl rfl rfl rfl rfl rfl rfl ?_
                refine v_step _ Is151  (fun s153 Is153 Gs153 ps153_0 ps153_1 ps153_2 => h_Kn ?_)
                have Fs153 := (Gs153.l1).tr Fs151
                have es153_5 : s153 98 5 = s151 98 5 := Gs153 98 5 rfl
                have es153_6 : s153 98 6 = s151 98 6 := Gs153 98 6 rfl
                have es153_7 : s153 101 18 = s151 101 18 := Gs153 101 18 rfl
                have es153_8 : s153 101 25 = s151 101 25 := Gs153 101 25 rfl
                refine h_aload_n (pc' := 133) rfl rfl rfl ?_
                refine h_getI (pc' := 136) (v := s153 98 13) rfl rfl rfl rfl rfl rfl (fun z154 hz154 => ?_)
                have tz154 := tf_98_13 Is153
                refine h_zle (tg := 140) (pc' := 139) rfl rfl rfl hz154 (fun c155 => ?_) (fun c155 => ?_)
                · refine h_aload_n (pc' := 141) rfl rfl rfl ?_
                  refine h_iload_n (pc' := 142) rfl rfl rfl ?_
                  refine h_call (sp := false) (pc' := 145) (M := [(0, .ref 98), (1, .int r1)]) rfl rfl rfl rfl rfl rfl rfl rfl ?_
                  refine v_readMore _ Is153 r1 _ hr1 (by omega) (by omega) (by omega) (by omega) (by omega) (fun s157 Is157 Gs157 ps157_0 ps157_1 => h_Kn ?_)
                  have Fs157 := (Gs157).tr Fs153
                  refine h_aload_n (pc' := 146) rfl rfl rfl ?_
                  refine h_getI (pc' := 149) (v := s157 98 13) rfl rfl rfl rfl rfl rfl (fun z158 hz158 => ?_)
                  have tz158 := tf_98_13 Is157
                  refine h_zne (tg := 165) (pc' := 152) rfl rfl rfl hz158 (fun c159 => ?_) (fun c159 => ?_)
                  · refine h_aload_n (pc' := 166) rfl rfl rfl ?_
                    refine h_call (sp := false) (pc' := 169) (M := [(0, .ref 98)]) rfl rfl rfl rfl rfl rfl rfl rfl ?_
                    refine v_step _ Is157  (fun s161 Is161 Gs161 ps161_0 ps161_1 ps161_2 => h_Kn ?_)
                    have Fs161 := (Gs161.l1).tr Fs157
                    have es161_5 : s161 98 5 = s157 98 5 := Gs161 98 5 rfl
                    have es161_6 : s161 98 6 = s157 98 6 := Gs161 98 6 rfl
                    have es161_7 : s161 101 18 = s157 101 18 := Gs161 101 18 rfl
                    have es161_8 : s161 101 25 = s157 101 25 := Gs161 101 25 rfl
                    exact h_vret rfl rfl (kk _ Is161 Fs161 (by omega) (by omega))
                  · refine h_aload_n (pc' := 153) rfl rfl rfl ?_
                    refine h_getI (pc' := 156) (v := s157 98 17) rfl rfl rfl rfl rfl rfl (fun z162 hz162 => ?_)
                    have tz162 := tf_98_17 Is157
                    refine h_iconst (pc' := 157) (x := (Int32.ofInt 3)) rfl rfl rfl ?_
                    refine h_ceq (tg := 165) (pc' := 160) rfl rfl rfl hz162 ci_3 (fun c163 => ?_) (fun c163 => ?_)
                    · refine h_aload_n (pc' := 166) rfl rfl rfl ?_
                      refine h_call (sp := false) (pc' := 169) (M := [(0, .ref 98)]) rfl rfl rfl rfl rfl rfl rfl rfl ?_
                      refine v_step _ Is157  (fun s165 Is165 Gs165 ps165_0 ps165_1 ps165_2 => h_Kn ?_)
                      have Fs165 := (Gs165.l1).tr Fs157
                      have es165_5 : s165 98 5 = s157 98 5 := Gs165 98 5 rfl
                      have es165_6 : s165 98 6 = s157 98 6 := Gs165 98 6 rfl
                      have es165_7 : s165 101 18 = s157 101 18 := Gs165 101 18 rfl
                      have es165_8 : s165 101 25 = s157 101 25 := Gs165 101 25 rfl
                      exact h_vret rfl rfl (kk _ Is165 Fs165 (by omega) (by omega))
                    · refine h_aload_n (pc' := 161) rfl rfl rfl ?_
                      refine h_iconst (pc' := 162) (x := (Int32.ofInt 2)) rfl rfl rfl ?_
                      refine h_call (sp := false) (pc' := 165) (M := [(0, .ref 98), (1, .int (Int32.ofInt 2))]) rfl rfl rfl rfl rfl rfl rfl rfl ?_
                      refine h_aload_n (pc' := 1) rfl rfl rfl ?_
                      refine h_getI (pc' := 4) (v := s157 98 13) rfl rfl rfl rfl rfl rfl (fun z166 hz166 => ?_)
                      have tz166 := tf_98_13 Is157
                      refine h_zne (tg := 20) (pc' := 7) rfl rfl rfl hz166 (fun c167 => absurd c167 (by omega)) (fun c167 => ?_)
                      refine h_aload_n (pc' := 8) rfl rfl rfl ?_
                      refine h_iload_n (pc' := 9) rfl rfl rfl ?_
                      refine h_put (pc' := 12) rfl rfl rfl rfl rfl rfl ci_2 rfl ?_
                      have Is168 : h_I (h_up s157 98 13 2) := (if_98_13 Is157 (by omega))
                      have Fs168 := (Fs157.up (q := 98) (a := 13) (v := 2) rfl)
                      have es168_0 : h_up s157 98 13 2 98 15 = s157 98 15 := rfl
                      have es168_1 : h_up s157 98 13 2 98 16 = s157 98 16 := rfl
                      have es168_2 : h_up s157 98 13 2 98 17 = s157 98 17 := rfl
                      have es168_3 : h_up s157 98 13 2 98 18 = s157 98 18 := rfl
                      have es168_4 : h_up s157 98 13 2 98 13 = 2 := rfl
                      have es168_5 : h_up s157 98 13 2 98 5 = s157 98 5 := rfl
                      have es168_6 : h_up s157 98 13 2 98 6 = s157 98 6 := rfl
                      have es168_7 : h_up s157 98 13 2 101 18 = s157 101 18 := rfl
                      have es168_8 : h_up s157 98 13 2 101 25 = s157 101 25 := rfl
                      generalize h_up s157 98 13 2 = s168 at Is168 Fs168 es168_0 es168_1 es168_2 es168_3 es168_4 es168_5 es168_6 es168_7 es168_8 ⊢
                      refine h_aload_n (pc' := 13) rfl rfl rfl ?_
                      refine h_aload_n (pc' := 14) rfl rfl rfl ?_
                      refine h_getI (pc' := 17) (v := s168 98 16) rfl rfl rfl rfl rfl rfl (fun z169 hz169 => ?_)
                      have tz169 := tf_98_16 Is168
                      refine h_put (pc' := 20) rfl rfl rfl rfl rfl rfl hz169 rfl ?_
                      have Is170 : h_I (h_up s168 98 14 (s168 98 16)) := (if_98_14 Is168 (h_rgv hz169))
                      have Fs170 := (Fs168.up (q := 98) (a := 14) (v := (s168 98 16)) rfl)
                      have es170_0 : h_up s168 98 14 (s168 98 16) 98 15 = s168 98 15 := rfl
                      have es170_1 : h_up s168 98 14 (s168 98 16) 98 16 = s168 98 16 := rfl
                      have es170_2 : h_up s168 98 14 (s168 98 16) 98 17 = s168 98 17 := rfl
                      have es170_3 : h_up s168 98 14 (s168 98 16) 98 18 = s168 98 18 := rfl
                      have es170_4 : h_up s168 98 14 (s168 98 16) 98 13 = s168 98 13 := rfl
                      have es170_5 : h_up s168 98 14 (s168 98 16) 98 5 = s168 98 5 := rfl
                      have es170_6 : h_up s168 98 14 (s168 98 16) 98 6 = s168 98 6 := rfl
                      have es170_7 : h_up s168 98 14 (s168 98 16) 101 18 = s168 101 18 := rfl
                      have es170_8 : h_up s168 98 14 (s168 98 16) 101 25 = s168 101 25 := rfl
                      generalize h_up s168 98 14 (s168 98 16) = s170 at Is170 Fs170 es170_0 es170_1 es170_2 es170_3 es170_4 es170_5 es170_6 es170_7 es170_8 ⊢
                      refine h_vret rfl rfl (h_Kn ?_)
                      refine h_aload_n (pc' := 166) rfl rfl rfl ?_
                      refine h_call (sp := false) (pc' := 169) (M := [(0, .ref 98)]) rfl rfl rfl rfl rfl rfl rfl rfl ?_
                      refine v_step _ Is170  (fun s172 Is172 Gs172 ps172_0 ps172_1 ps172_2 => h_Kn ?_)
                      have Fs172 := (Gs172.l1).tr Fs170
                      have es172_5 : s172 98 5 = s170 98 5 := Gs172 98 5 rfl
                      have es172_6 : s172 98 6 = s170 98 6 := Gs172 98 6 rfl
                      have es172_7 : s172 101 18 = s170 101 18 := Gs172 101 18 rfl
                      have es172_8 : s172 101 25 = s170 101 25 := Gs172 101 25 rfl
                      exact h_vret rfl rfl (kk _ Is172 Fs172 (by omega) (by omega))
                · exact h_vret rfl rfl (kk _ Is153 Fs153 (by omega) (by omega))
            · refine h_aload_n (pc' := 84) rfl rfl rfl ?_
              refine h_iconst (pc' := 85) (x := (Int32.ofInt 5)) rfl rfl rfl ?_
              refine h_call (sp := false) (pc' := 88) (M := [(0, .ref 98), (1, .int (Int32.ofInt 5))]) rfl rfl rfl rfl rfl rfl rfl rfl ?_
              refine h_aload_n (pc' := 1) rfl rfl rfl ?_
              refine h_getI (pc' := 4) (v := σ 98 13) rfl rfl rfl rfl rfl rfl (fun z173 hz173 => ?_)
              have tz173 := tf_98_13 hI
              refine h_zne (tg := 20) (pc' := 7) rfl rfl rfl hz173 (fun c174 => ?_) (fun c174 => ?_)
              · refine h_vret rfl rfl (h_Kn ?_)
                refine h_iload_n (pc' := 89) rfl rfl rfl ?_
                refine h_bipush (pc' := 91) (x := (Int32.ofInt 7)) rfl rfl cb_7 ?_
                refine h_cne (tg := 106) (pc' := 94) rfl rfl rfl hr1 ci_7 (fun c175 => ?_) (fun c175 => absurd c175 (by omega))
                refine h_aload_n (pc' := 107) rfl rfl rfl ?_
                refine h_aload_n (pc' := 108) rfl rfl rfl ?_
                refine h_getI (pc' := 111) (v := σ 98 7) rfl rfl rfl rfl rfl rfl (fun z176 hz176 => ?_)
                have tz176 := tf_98_7 hI
                refine h_zne (tg := 120) (pc' := 114) rfl rfl rfl hz176 (fun c177 => ?_) (fun c177 => ?_)
                · refine h_iconst (pc' := 121) (x := (Int32.ofInt 1)) rfl rfl rfl ?_
                  refine h_goto (pc' := 125) rfl rfl ?_
                  refine h_put (pc' := 128) rfl rfl rfl rfl rfl rfl ci_1 (h_fb ci_1 (by omega)) ?_
                  have Is178 : h_I (h_up σ 98 7 1) := (if_98_7 hI (by omega))
                  have Fs178 := (F00.up (q := 98) (a := 7) (v := 1) rfl)
                  have es178_0 : h_up σ 98 7 1 98 15 = σ 98 15 := rfl
                  have es178_1 : h_up σ 98 7 1 98 16 = σ 98 16 := rfl
                  have es178_2 : h_up σ 98 7 1 98 17 = σ 98 17 := rfl
                  have es178_3 : h_up σ 98 7 1 98 18 = σ 98 18 := rfl
                  have es178_4 : h_up σ 98 7 1 98 13 = σ 98 13 := rfl
                  have es178_5 : h_up σ 98 7 1 98 5 = σ 98 5 := rfl
                  have es178_6 : h_up σ 98 7 1 98 6 = σ 98 6 := rfl
                  have es178_7 : h_up σ 98 7 1 101 18 = σ 101 18 := rfl
                  have es178_8 : h_up σ 98 7 1 101 25 = σ 101 25 := rfl
                  generalize h_up σ 98 7 1 = s178 at Is178 Fs178 es178_0 es178_1 es178_2 es178_3 es178_4 es178_5 es178_6 es178_7 es178_8 ⊢
                  refine h_aload_n (pc' := 129) rfl rfl rfl ?_
                  refine h_call (sp := false) (pc' := 132) (M := [(0, .ref 98)]) rfl rfl rfl rfl rfl rfl rfl rfl ?_
                  refine v_step _ Is178  (fun s180 Is180 Gs180 ps180_0 ps180_1 ps180_2 => h_Kn ?_)
                  have Fs180 := (Gs180.l1).tr Fs178
                  have es180_5 : s180 98 5 = s178 98 5 := Gs180 98 5 rfl
                  have es180_6 : s180 98 6 = s178 98 6 := Gs180 98 6 rfl
                  have es180_7 : s180 101 18 = s178 101 18 := Gs180 101 18 rfl
                  have es180_8 : s180 101 25 = s178 101 25 := Gs180 101 25 rfl
                  refine h_aload_n (pc' := 133) rfl rfl rfl ?_
                  refine h_getI (pc' := 136) (v := s180 98 13) rfl rfl rfl rfl rfl rfl (fun z181 hz181 => ?_)
                  have tz181 := tf_98_13 Is180
                  refine h_zle (tg := 140) (pc' := 139) rfl rfl rfl hz181 (fun c182 => ?_) (fun c182 => ?_)
                  · refine h_aload_n (pc' := 141) rfl rfl rfl ?_
                    refine h_iload_n (pc' := 142) rfl rfl rfl ?_
                    refine h_call (sp := false) (pc' := 145) (M := [(0, .ref 98), (1, .int r1)]) rfl rfl rfl rfl rfl rfl rfl rfl ?_
                    refine v_readMore _ Is180 r1 _ hr1 (by omega) (by omega) (by omega) (by omega) (by omega) (fun s184 Is184 Gs184 ps184_0 ps184_1 => h_Kn ?_)
                    have Fs184 := (Gs184).tr Fs180
                    refine h_aload_n (pc' := 146) rfl rfl rfl ?_
                    refine h_getI (pc' := 149) (v := s184 98 13) rfl rfl rfl rfl rfl rfl (fun z185 hz185 => ?_)
                    have tz185 := tf_98_13 Is184
                    refine h_zne (tg := 165) (pc' := 152) rfl rfl rfl hz185 (fun c186 => ?_) (fun c186 => ?_)
                    · refine h_aload_n (pc' := 166) rfl rfl rfl ?_
                      refine h_call (sp := false) (pc' := 169) (M := [(0, .ref 98)]) rfl rfl rfl rfl rfl rfl rfl rfl ?_
                      refine v_step _ Is184  (fun s188 Is188 Gs188 ps188_0 ps188_1 ps188_2 => h_Kn ?_)
                      have Fs188 := (Gs188.l1).tr Fs184
                      have es188_5 : s188 98 5 = s184 98 5 := Gs188 98 5 rfl
                      have es188_6 : s188 98 6 = s184 98 6 := Gs188 98 6 rfl
                      have es188_7 : s188 101 18 = s184 101 18 := Gs188 101 18 rfl
                      have es188_8 : s188 101 25 = s184 101 25 := Gs188 101 25 rfl
                      exact h_vret rfl rfl (kk _ Is188 Fs188 (by omega) (by omega))
                    · refine h_aload_n (pc' := 153) rfl rfl rfl ?_
                      refine h_getI (pc' := 156) (v := s184 98 17) rfl rfl rfl rfl rfl rfl (fun z189 hz189 => ?_)
                      have tz189 := tf_98_17 Is184
                      refine h_iconst (pc' := 157) (x := (Int32.ofInt 3)) rfl rfl rfl ?_
                      refine h_ceq (tg := 165) (pc' := 160) rfl rfl rfl hz189 ci_3 (fun c190 => ?_) (fun c190 => ?_)
                      · refine h_aload_n (pc' := 166) rfl rfl rfl ?_
                        refine h_call (sp := false) (pc' := 169) (M := [(0, .ref 98)]) rfl rfl rfl rfl rfl rfl rfl rfl ?_
                        refine v_step _ Is184  (fun s192 Is192 Gs192 ps192_0 ps192_1 ps192_2 => h_Kn ?_)
                        have Fs192 := (Gs192.l1).tr Fs184
                        have es192_5 : s192 98 5 = s184 98 5 := Gs192 98 5 rfl
                        have es192_6 : s192 98 6 = s184 98 6 := Gs192 98 6 rfl
                        have es192_7 : s192 101 18 = s184 101 18 := Gs192 101 18 rfl
                        have es192_8 : s192 101 25 = s184 101 25 := Gs192 101 25 rfl
                        exact h_vret rfl rfl (kk _ Is192 Fs192 (by omega) (by omega))
                      · refine h_aload_n (pc' := 161) rfl rfl rfl ?_
                        refine h_iconst (pc' := 162) (x := (Int32.ofInt 2)) rfl rfl rfl ?_
                        refine h_call (sp := false) (pc' := 165) (M := [(0, .ref 98), (1, .int (Int32.ofInt 2))]) rfl rfl rfl rfl rfl rfl rfl rfl ?_
                        refine h_aload_n (pc' := 1) rfl rfl rfl ?_
                        refine h_getI (pc' := 4) (v := s184 98 13) rfl rfl rfl rfl rfl rfl (fun z193 hz193 => ?_)
                        have tz193 := tf_98_13 Is184
                        refine h_zne (tg := 20) (pc' := 7) rfl rfl rfl hz193 (fun c194 => absurd c194 (by omega)) (fun c194 => ?_)
                        refine h_aload_n (pc' := 8) rfl rfl rfl ?_
                        refine h_iload_n (pc' := 9) rfl rfl rfl ?_
                        refine h_put (pc' := 12) rfl rfl rfl rfl rfl rfl ci_2 rfl ?_
                        have Is195 : h_I (h_up s184 98 13 2) := (if_98_13 Is184 (by omega))
                        have Fs195 := (Fs184.up (q := 98) (a := 13) (v := 2) rfl)
                        have es195_0 : h_up s184 98 13 2 98 15 = s184 98 15 := rfl
                        have es195_1 : h_up s184 98 13 2 98 16 = s184 98 16 := rfl
                        have es195_2 : h_up s184 98 13 2 98 17 = s184 98 17 := rfl
                        have es195_3 : h_up s184 98 13 2 98 18 = s184 98 18 := rfl
                        have es195_4 : h_up s184 98 13 2 98 13 = 2 := rfl
                        have es195_5 : h_up s184 98 13 2 98 5 = s184 98 5 := rfl
                        have es195_6 : h_up s184 98 13 2 98 6 = s184 98 6 := rfl
                        have es195_7 : h_up s184 98 13 2 101 18 = s184 101 18 := rfl
                        have es195_8 : h_up s184 98 13 2 101 25 = s184 101 25 := rfl
                        generalize h_up s184 98 13 2 = s195 at Is195 Fs195 es195_0 es195_1 es195_2 es195_3 es195_4 es195_5 es195_6 es195_7 es195_8 ⊢
                        refine h_aload_n (pc' := 13) rfl rfl rfl ?_
                        refine h_aload_n (pc' := 14) rfl rfl rfl ?_
                        refine h_getI (pc' := 17) (v := s195 98 16) rfl rfl rfl rfl rfl rfl (fun z196 hz196 => ?_)
                        have tz196 := tf_98_16 Is195
                        refine h_put (pc' := 20) rfl rfl rfl rfl rfl rfl hz196 rfl ?_
                        have Is197 : h_I (h_up s195 98 14 (s195 98 16)) := (if_98_14 Is195 (h_rgv hz196))
                        have Fs197 := (Fs195.up (q := 98) (a := 14) (v := (s195 98 16)) rfl)
                        have es197_0 : h_up s195 98 14 (s195 98 16) 98 15 = s195 98 15 := rfl
                        have es197_1 : h_up s195 98 14 (s195 98 16) 98 16 = s195 98 16 := rfl
                        have es197_2 : h_up s195 98 14 (s195 98 16) 98 17 = s195 98 17 := rfl
                        have es197_3 : h_up s195 98 14 (s195 98 16) 98 18 = s195 98 18 := rfl
                        have es197_4 : h_up s195 98 14 (s195 98 16) 98 13 = s195 98 13 := rfl
                        have es197_5 : h_up s195 98 14 (s195 98 16) 98 5 = s195 98 5 := rfl
                        have es197_6 : h_up s195 98 14 (s195 98 16) 98 6 = s195 98 6 := rfl
                        have es197_7 : h_up s195 98 14 (s195 98 16) 101 18 = s195 101 18 := rfl
                        have es197_8 : h_up s195 98 14 (s195 98 16) 101 25 = s195 101 25 := rfl
                        generalize h_up s195 98 14 (s195 98 16) = s197 at Is197 Fs197 es197_0 es197_1 es197_2 es197_3 es197_4 es197_5 es197_6 es197_7 es197_8 ⊢
                        refine h_vret rfl rfl (h_Kn ?_)
                        refine h_aload_n (pc' := 166) rfl rfl rfl ?_
                        refine h_call (sp := false) (pc' := 169) (M := [(0, .ref 98)]) rfl rfl rfl rfl rfl rfl rfl rfl ?_
                        refine v_step _ Is197  (fun s199 Is199 Gs199 ps199_0 ps199_1 ps199_2 => h_Kn ?_)
                        have Fs199 := (Gs199.l1).tr Fs197
                        have es199_5 : s199 98 5 = s197 98 5 := Gs199 98 5 rfl
                        have es199_6 : s199 98 6 = s197 98 6 := Gs199 98 6 rfl
                        have es199_7 : s199 101 18 = s197 101 18 := Gs199 101 18 rfl
                        have es199_8 : s199 101 25 = s197 101 25 := Gs199 101 25 rfl
                        exact h_vret rfl rfl (kk _ Is199 Fs199 (by omega) (by omega))
                  · exact h_vret rfl rfl (kk _ Is180 Fs180 (by omega) (by omega))
                · refine h_iload_n (pc' := 115) rfl rfl rfl ?_
                  refine h_bipush (pc' := 117) (x := (Int32.ofInt 7)) rfl rfl cb_7 ?_
                  refine h_cne (tg := 124) (pc' := 120) rfl rfl rfl hr1 ci_7 (fun c200 => ?_) (fun c200 => absurd c200 (by omega))
                  refine h_iconst (pc' := 125) (x := (Int32.ofInt 0)) rfl rfl rfl ?_
                  refine h_put (pc' := 128) rfl rfl rfl rfl rfl rfl ci_0 (h_fb ci_0 (by omega)) ?_
                  have Is201 : h_I (h_up σ 98 7 0) := (if_98_7 hI (by omega))
                  have Fs201 := (F00.up (q := 98) (a := 7) (v := 0) rfl)
                  have es201_0 : h_up σ 98 7 0 98 15 = σ 98 15 := rfl
                  have es201_1 : h_up σ 98 7 0 98 16 = σ 98 16 := rfl
                  have es201_2 : h_up σ 98 7 0 98 17 = σ 98 17 := rfl
                  have es201_3 : h_up σ 98 7 0 98 18 = σ 98 18 := rfl
                  have es201_4 : h_up σ 98 7 0 98 13 = σ 98 13 := rfl
                  have es201_5 : h_up σ 98 7 0 98 5 = σ 98 5 := rfl
                  have es201_6 : h_up σ 98 7 0 98 6 = σ 98 6 := rfl
                  have es201_7 : h_up σ 98 7 0 101 18 = σ 101 18 := rfl
                  have es201_8 : h_up σ 98 7 0 101 25 = σ 101 25 := rfl
                  generalize h_up σ 98 7 0 = s201 at Is201 Fs201 es201_0 es201_1 es201_2 es201_3 es201_4 es201_5 es201_6 es201_7 es201_8 ⊢
                  refine h_aload_n (pc' := 129) rfl rfl rfl ?_
                  refine h_call (sp := false) (pc' := 132) (M := [(0, .ref 98)]) rfl rfl rfl rfl rfl rfl rfl rfl ?_
                  refine v_step _ Is201  (fun s203 Is203 Gs203 ps203_0 ps203_1 ps203_2 => h_Kn ?_)
                  have Fs203 := (Gs203.l1).tr Fs201
                  have es203_5 : s203 98 5 = s201 98 5 := Gs203 98 5 rfl
                  have es203_6 : s203 98 6 = s201 98 6 := Gs203 98 6 rfl
                  have es203_7 : s203 101 18 = s201 101 18 := Gs203 101 18 rfl
                  have es203_8 : s203 101 25 = s201 101 25 := Gs203 101 25 rfl
                  refine h_aload_n (pc' := 133) rfl rfl rfl ?_
                  refine h_getI (pc' := 136) (v := s203 98 13) rfl rfl rfl rfl rfl rfl (fun z204 hz204 => ?_)
                  have tz204 := tf_98_13 Is203
                  refine h_zle (tg := 140) (pc' := 139) rfl rfl rfl hz204 (fun c205 => ?_) (fun c205 => ?_)
                  · refine h_aload_n (pc' := 141) rfl rfl rfl ?_
                    refine h_iload_n (pc' := 142) rfl rfl rfl ?_
                    refine h_call (sp := false) (pc' := 145) (M := [(0, .ref 98), (1, .int r1)]) rfl rfl rfl rfl rfl rfl rfl rfl ?_
                    refine v_readMore _ Is203 r1 _ hr1 (by omega) (by omega) (by omega) (by omega) (by omega) (fun s207 Is207 Gs207 ps207_0 ps207_1 => h_Kn ?_)
                    have Fs207 := (Gs207).tr Fs203
                    refine h_aload_n (pc' := 146) rfl rfl rfl ?_
                    refine h_getI (pc' := 149) (v := s207 98 13) rfl rfl rfl rfl rfl rfl (fun z208 hz208 => ?_)
                    have tz208 := tf_98_13 Is207
                    refine h_zne (tg := 165) (pc' := 152) rfl rfl rfl hz208 (fun c209 => ?_) (fun c209 => ?_)
                    · refine h_aload_n (pc' := 166) rfl rfl rfl ?_
                      refine h_call (sp := false) (pc' := 169) (M := [(0, .ref 98)]) rfl rfl rfl rfl rfl rfl rfl rfl ?_
                      refine v_step _ Is207  (fun s211 Is211 Gs211 ps211_0 ps211_1 ps211_2 => h_Kn ?_)
                      have Fs211 := (Gs211.l1).tr Fs207
                      have es211_5 : s211 98 5 = s207 98 5 := Gs211 98 5 rfl
                      have es211_6 : s211 98 6 = s207 98 6 := Gs211 98 6 rfl
                      have es211_7 : s211 101 18 = s207 101 18 := Gs211 101 18 rfl
                      have es211_8 : s211 101 25 = s207 101 25 := Gs211 101 25 rfl
                      exact h_vret rfl rfl (kk _ Is211 Fs211 (by omega) (by omega))
                    · refine h_aload_n (pc' := 153) rfl rfl rfl ?_
                      refine h_getI (pc' := 156) (v := s207 98 17) rfl rfl rfl rfl rfl rfl (fun z212 hz212 => ?_)
                      have tz212 := tf_98_17 Is207
                      refine h_iconst (pc' := 157) (x := (Int32.ofInt 3)) rfl rfl rfl ?_
                      refine h_ceq (tg := 165) (pc' := 160) rfl rfl rfl hz212 ci_3 (fun c213 => ?_) (fun c213 => ?_)
                      · refine h_aload_n (pc' := 166) rfl rfl rfl ?_
                        refine h_call (sp := false) (pc' := 169) (M := [(0, .ref 98)]) rfl rfl rfl rfl rfl rfl rfl rfl ?_
                        refine v_step _ Is207  (fun s215 Is215 Gs215 ps215_0 ps215_1 ps215_2 => h_Kn ?_)
                        have Fs215 := (Gs215.l1).tr Fs207
                        have es215_5 : s215 98 5 = s207 98 5 := Gs215 98 5 rfl
                        have es215_6 : s215 98 6 = s207 98 6 := Gs215 98 6 rfl
                        have es215_7 : s215 101 18 = s207 101 18 := Gs215 101 18 rfl
                        have es215_8 : s215 101 25 = s207 101 25 := Gs215 101 25 rfl
                        exact h_vret rfl rfl (kk _ Is215 Fs215 (by omega) (by omega))
                      · refine h_aload_n (pc' := 161) rfl rfl rfl ?_
                        refine h_iconst (pc' := 162) (x := (Int32.ofInt 2)) rfl rfl rfl ?_
                        refine h_call (sp := false) (pc' := 165) (M := [(0, .ref 98), (1, .int (Int32.ofInt 2))]) rfl rfl rfl rfl rfl rfl rfl rfl ?_
                        refine h_aload_n (pc' := 1) rfl rfl rfl ?_
                        refine h_getI (pc' := 4) (v := s207 98 13) rfl rfl rfl rfl rfl rfl (fun z216 hz216 => ?_)
                        have tz216 := tf_98_13 Is207
                        refine h_zne (tg := 20) (pc' := 7) rfl rfl rfl hz216 (fun c217 => absurd c217 (by omega)) (fun c217 => ?_)
                        refine h_aload_n (pc' := 8) rfl rfl rfl ?_
                        refine h_iload_n (pc' := 9) rfl rfl rfl ?_
                        refine h_put (pc' := 12) rfl rfl rfl rfl rfl rfl ci_2 rfl ?_
                        have Is218 : h_I (h_up s207 98 13 2) := (if_98_13 Is207 (by omega))
                        have Fs218 := (Fs207.up (q := 98) (a := 13) (v := 2) rfl)
                        have es218_0 : h_up s207 98 13 2 98 15 = s207 98 15 := rfl
                        have es218_1 : h_up s207 98 13 2 98 16 = s207 98 16 := rfl
                        have es218_2 : h_up s207 98 13 2 98 17 = s207 98 17 := rfl
                        have es218_3 : h_up s207 98 13 2 98 18 = s207 98 18 := rfl
                        have es218_4 : h_up s207 98 13 2 98 13 = 2 := rfl
                        have es218_5 : h_up s207 98 13 2 98 5 = s207 98 5 := rfl
                        have es218_6 : h_up s207 98 13 2 98 6 = s207 98 6 := rfl
                        have es218_7 : h_up s207 98 13 2 101 18 = s207 101 18 := rfl
                        have es218_8 : h_up s207 98 13 2 101 25 = s207 101 25 := rfl
                        generalize h_up s207 98 13 2 = s218 at Is218 Fs218 es218_0 es218_1 es218_2 es218_3 es218_4 es218_5 es218_6 es218_7 es218_8 ⊢
                        refine h_aload_n (pc' := 13) rfl rfl rfl ?_
                        refine h_aload_n (pc' := 14) rfl rfl rfl ?_
                        refine h_getI (pc' := 17) (v := s218 98 16) rfl rfl rfl rfl rfl rfl (fun z219 hz219 => ?_)
                        have tz219 := tf_98_16 Is218
                        refine h_put (pc' := 20) rfl rfl rfl rfl rfl rfl hz219 rfl ?_
                        have Is220 : h_I (h_up s218 98 14 (s218 98 16)) := (if_98_14 Is218 (h_rgv hz219))
                        have Fs220 := (Fs218.up (q := 98) (a := 14) (v := (s218 98 16)) rfl)
                        have es220_0 : h_up s218 98 14 (s218 98 16) 98 15 = s218 98 15 := rfl
                        have es220_1 : h_up s218 98 14 (s218 98 16) 98 16 = s218 98 16 := rfl
                        have es220_2 : h_up s218 98 14 (s218 98 16) 98 17 = s218 98 17 := rfl
                        have es220_3 : h_up s218 98 14 (s218 98 16) 98 18 = s218 98 18 := rfl
                        have es220_4 : h_up s218 98 14 (s218 98 16) 98 13 = s218 98 13 := rfl
                        have es220_5 : h_up s218 98 14 (s218 98 16) 98 5 = s218 98 5 := rfl
                        have es220_6 : h_up s218 98 14 (s218 98 16) 98 6 = s218 98 6 := rfl
                        have es220_7 : h_up s218 98 14 (s218 98 16) 101 18 = s218 101 18 := rfl
                        have es220_8 : h_up s218 98 14 (s218 98 16) 101 25 = s218 101 25 := rfl
                        generalize h_up s218 98 14 (s218 98 16) = s220 at Is220 Fs220 es220_0 es220_1 es220_2 es220_3 es220_4 es220_5 es220_6 es220_7 es220_8 ⊢
                        refine h_vret rfl rfl (h_Kn ?_)
                        refine h_aload_n (pc' := 166) rfl rfl rfl ?_
                        refine h_call (sp := false) (pc' := 169) (M := [(0, .ref 98)]) rfl rfl rfl rfl rfl rfl rfl rfl ?_
                        refine v_step _ Is220  (fun s222 Is222 Gs222 ps222_0 ps222_1 ps222_2 => h_Kn ?_)
                        have Fs222 := (Gs222.l1).tr Fs220
                        have es222_5 : s222 98 5 = s220 98 5 := Gs222 98 5 rfl
                        have es222_6 : s222 98 6 = s220 98 6 := Gs222 98 6 rfl
                        have es222_7 : s222 101 18 = s220 101 18 := Gs222 101 18 rfl
                        have es222_8 : s222 101 25 = s220 101 25 := Gs222 101 25 rfl
                        exact h_vret rfl rfl (kk _ Is222 Fs222 (by omega) (by omega))
                  · exact h_vret rfl rfl (kk _ Is203 Fs203 (by omega) (by omega))
              · refine h_aload_n (pc' := 8) rfl rfl rfl ?_
                refine h_iload_n (pc' := 9) rfl rfl rfl ?_
                refine h_put (pc' := 12) rfl rfl rfl rfl rfl rfl ci_5 rfl ?_
                have Is223 : h_I (h_up σ 98 13 5) := (if_98_13 hI (by omega))
                have Fs223 := (F00.up (q := 98) (a := 13) (v := 5) rfl)
                have es223_0 : h_up σ 98 13 5 98 15 = σ 98 15 := rfl
                have es223_1 : h_up σ 98 13 5 98 16 = σ 98 16 := rfl
                have es223_2 : h_up σ 98 13 5 98 17 = σ 98 17 := rfl
                have es223_3 : h_up σ 98 13 5 98 18 = σ 98 18 := rfl
                have es223_4 : h_up σ 98 13 5 98 13 = 5 := rfl
                have es223_5 : h_up σ 98 13 5 98 5 = σ 98 5 := rfl
                have es223_6 : h_up σ 98 13 5 98 6 = σ 98 6 := rfl
                have es223_7 : h_up σ 98 13 5 101 18 = σ 101 18 := rfl
                have es223_8 : h_up σ 98 13 5 101 25 = σ 101 25 := rfl
                generalize h_up σ 98 13 5 = s223 at Is223 Fs223 es223_0 es223_1 es223_2 es223_3 es223_4 es223_5 es223_6 es223_7 es223_8 ⊢
                refine h_aload_n (pc' := 13) rfl rfl rfl ?_
                refine h_aload_n (pc' := 14) rfl rfl rfl ?_
                refine h_getI (pc' := 17) (v := s223 98 16) rfl rfl rfl rfl rfl rfl (fun z224 hz224 => ?_)
                have tz224 := tf_98_16 Is223
                refine h_put (pc' := 20) rfl rfl rfl rfl rfl rfl hz224 rfl ?_
                have Is225 : h_I (h_up s223 98 14 (s223 98 16)) := (if_98_14 Is223 (h_rgv hz224))
                have Fs225 := (Fs223.up (q := 98) (a := 14) (v := (s223 98 16)) rfl)
                have es225_0 : h_up s223 98 14 (s223 98 16) 98 15 = s223 98 15 := rfl
                have es225_1 : h_up s223 98 14 (s223 98 16) 98 16 = s223 98 16 := rfl
                have es225_2 : h_up s223 98 14 (s223 98 16) 98 17 = s223 98 17 := rfl
                have es225_3 : h_up s223 98 14 (s223 98 16) 98 18 = s223 98 18 := rfl
                have es225_4 : h_up s223 98 14 (s223 98 16) 98 13 = s223 98 13 := rfl
                have es225_5 : h_up s223 98 14 (s223 98 16) 98 5 = s223 98 5 := rfl
                have es225_6 : h_up s223 98 14 (s223 98 16) 98 6 = s223 98 6 := rfl
                have es225_7 : h_up s223 98 14 (s223 98 16) 101 18 = s223 101 18 := rfl
                have es225_8 : h_up s223 98 14 (s223 98 16) 101 25 = s223 101 25 := rfl
                generalize h_up s223 98 14 (s223 98 16) = s225 at Is225 Fs225 es225_0 es225_1 es225_2 es225_3 es225_4 es225_5 es225_6 es225_7 es225_8 ⊢
                refine h_vret rfl rfl (h_Kn ?_)
                refine h_iload_n (pc' := 89) rfl rfl rfl ?_
                refine h_bipush (pc' := 91) (x := (Int32.ofInt 7)) rfl rfl cb_7 ?_
                refine h_cne (tg := 106) (pc' := 94) rfl rfl rfl hr1 ci_7 (fun c226 => ?_) (fun c226 => absurd c226 (by omega))
                refine h_aload_n (pc' := 107) rfl rfl rfl ?_
                refine h_aload_n (pc' := 108) rfl rfl rfl ?_
                refine h_getI (pc' := 111) (v := s225 98 7) rfl rfl rfl rfl rfl rfl (fun z227 hz227 => ?_)
                have tz227 := tf_98_7 Is225
                refine h_zne (tg := 120) (pc' := 114) rfl rfl rfl hz227 (fun c228 => ?_) (fun c228 => ?_)
                · refine h_iconst (pc' := 121) (x := (Int32.ofInt 1)) rfl rfl rfl ?_
                  refine h_goto (pc' := 125) rfl rfl ?_
                  refine h_put (pc' := 128) rfl rfl rfl rfl rfl rfl ci_1 (h_fb ci_1 (by omega)) ?_
                  have Is229 : h_I (h_up s225 98 7 1) := (if_98_7 Is225 (by omega))
                  have Fs229 := (Fs225.up (q := 98) (a := 7) (v := 1) rfl)
                  have es229_0 : h_up s225 98 7 1 98 15 = s225 98 15 := rfl
                  have es229_1 : h_up s225 98 7 1 98 16 = s225 98 16 := rfl
                  have es229_2 : h_up s225 98 7 1 98 17 = s225 98 17 := rfl
                  have es229_3 : h_up s225 98 7 1 98 18 = s225 98 18 := rfl
                  have es229_4 : h_up s225 98 7 1 98 13 = s225 98 13 := rfl
                  have es229_5 : h_up s225 98 7 1 98 5 = s225 98 5 := rfl
                  have es229_6 : h_up s225 98 7 1 98 6 = s225 98 6 := rfl
                  have es229_7 : h_up s225 98 7 1 101 18 = s225 101 18 := rfl
                  have es229_8 : h_up s225 98 7 1 101 25 = s225 101 25 := rfl
                  generalize h_up s225 98 7 1 = s229 at Is229 Fs229 es229_0 es229_1 es229_2 es229_3 es229_4 es229_5 es229_6 es229_7 es229_8 ⊢
                  refine h_aload_n (pc' := 129) rfl rfl rfl ?_
                  refine h_call (sp := false) (pc' := 132) (M := [(0, .ref 98)]) rfl rfl rfl rfl rfl rfl rfl rfl ?_
                  refine v_step _ Is229  (fun s231 Is231 Gs231 ps231_0 ps231_1 ps231_2 => h_Kn ?_)
                  have Fs231 := (Gs231.l1).tr Fs229
                  have es231_5 : s231 98 5 = s229 98 5 := Gs231 98 5 rfl
                  have es231_6 : s231 98 6 = s229 98 6 := Gs231 98 6 rfl
                  have es231_7 : s231 101 18 = s229 101 18 := Gs231 101 18 rfl
                  have es231_8 : s231 101 25 = s229 101 25 := Gs231 101 25 rfl
                  refine h_aload_n (pc' := 133) rfl rfl rfl ?_
                  refine h_getI (pc' := 136) (v := s231 98 13) rfl rfl rfl rfl rfl rfl (fun z232 hz232 => ?_)
                  have tz232 := tf_98_13 Is231
                  refine h_zle (tg := 140) (pc' := 139) rfl rfl rfl hz232 (fun c233 => ?_) (fun c233 => ?_)
                  · refine h_aload_n (pc' := 141) rfl rfl rfl ?_
                    refine h_iload_n (pc' := 142) rfl rfl rfl ?_
                    refine h_call (sp := false) (pc' := 145) (M := [(0, .ref 98), (1, .int r1)]) rfl rfl rfl rfl rfl rfl rfl rfl ?_
                    refine v_readMore _ Is231 r1 _ hr1 (by omega) (by omega) (by omega) (by omega) (by omega) (fun s235 Is235 Gs235 ps235_0 ps235_1 => h_Kn ?_)
                    have Fs235 := (Gs235).tr Fs231
                    refine h_aload_n (pc' := 146) rfl rfl rfl ?_
                    refine h_getI (pc' := 149) (v := s235 98 13) rfl rfl rfl rfl rfl rfl (fun z236 hz236 => ?_)
                    have tz236 := tf_98_13 Is235
                    refine h_zne (tg := 165) (pc' := 152) rfl rfl rfl hz236 (fun c237 => ?_) (fun c237 => ?_)
                    · refine h_aload_n (pc' := 166) rfl rfl rfl ?_
                      refine h_call (sp := false) (pc' := 169) (M := [(0, .ref 98)]) rfl rfl rfl rfl rfl rfl rfl rfl ?_
                      refine v_step _ Is235  (fun s239 Is239 Gs239 ps239_0 ps239_1 ps239_2 => h_Kn ?_)
                      have Fs239 := (Gs239.l1).tr Fs235
                      have es239_5 : s239 98 5 = s235 98 5 := Gs239 98 5 rfl
                      have es239_6 : s239 98 6 = s235 98 6 := Gs239 98 6 rfl
                      have es239_7 : s239 101 18 = s235 101 18 := Gs239 101 18 rfl
                      have es239_8 : s239 101 25 = s235 101 25 := Gs239 101 25 rfl
                      exact h_vret rfl rfl (kk _ Is239 Fs239 (by omega) (by omega))
                    · refine h_aload_n (pc' := 153) rfl rfl rfl ?_
                      refine h_getI (pc' := 156) (v := s235 98 17) rfl rfl rfl rfl rfl rfl (fun z240 hz240 => ?_)
                      have tz240 := tf_98_17 Is235
                      refine h_iconst (pc' := 157) (x := (Int32.ofInt 3)) rfl rfl rfl ?_
                      refine h_ceq (tg := 165) (pc' := 160) rfl rfl rfl hz240 ci_3 (fun c241 => ?_) (fun c241 => ?_)
                      · refine h_aload_n (pc' := 166) rfl rfl rfl ?_
                        refine h_call (sp := false) (pc' := 169) (M := [(0, .ref 98)]) rfl rfl rfl rfl rfl rfl rfl rfl ?_
                        refine v_step _ Is235  (fun s243 Is243 Gs243 ps243_0 ps243_1 ps243_2 => h_Kn ?_)
                        have Fs243 := (Gs243.l1).tr Fs235
                        have es243_5 : s243 98 5 = s235 98 5 := Gs243 98 5 rfl
                        have es243_6 : s243 98 6 = s235 98 6 := Gs243 98 6 rfl
                        have es243_7 : s243 101 18 = s235 101 18 := Gs243 101 18 rfl
                        have es243_8 : s243 101 25 = s235 101 25 := Gs243 101 25 rfl
                        exact h_vret rfl rfl (kk _ Is243 Fs243 (by omega) (by omega))
                      · refine h_aload_n (pc' := 161) rfl rfl rfl ?_
                        refine h_iconst (pc' := 162) (x := (Int32.ofInt 2)) rfl rfl rfl ?_
                        refine h_call (sp := false) (pc' := 165) (M := [(0, .ref 98), (1, .int (Int32.ofInt 2))]) rfl rfl rfl rfl rfl rfl rfl rfl ?_
                        refine h_aload_n (pc' := 1) rfl rfl rfl ?_
                        refine h_getI (pc' := 4) (v := s235 98 13) rfl rfl rfl rfl rfl rfl (fun z244 hz244 => ?_)
                        have tz244 := tf_98_13 Is235
                        refine h_zne (tg := 20) (pc' := 7) rfl rfl rfl hz244 (fun c245 => absurd c245 (by omega)) (fun c245 => ?_)
                        refine h_aload_n (pc' := 8) rfl rfl rfl ?_
                        refine h_iload_n (pc' := 9) rfl rfl rfl ?_
                        refine h_put (pc' := 12) rfl rfl rfl rfl rfl rfl ci_2 rfl ?_
                        have Is246 : h_I (h_up s235 98 13 2) := (if_98_13 Is235 (by omega))
                        have Fs246 := (Fs235.up (q := 98) (a := 13) (v := 2) rfl)
                        have es246_0 : h_up s235 98 13 2 98 15 = s235 98 15 := rfl
                        have es246_1 : h_up s235 98 13 2 98 16 = s235 98 16 := rfl
                        have es246_2 : h_up s235 98 13 2 98 17 = s235 98 17 := rfl
                        have es246_3 : h_up s235 98 13 2 98 18 = s235 98 18 := rfl
                        have es246_4 : h_up s235 98 13 2 98 13 = 2 := rfl
                        have es246_5 : h_up s235 98 13 2 98 5 = s235 98 5 := rfl
                        have es246_6 : h_up s235 98 13 2 98 6 = s235 98 6 := rfl
                        have es246_7 : h_up s235 98 13 2 101 18 = s235 101 18 := rfl
                        have es246_8 : h_up s235 98 13 2 101 25 = s235 101 25 := rfl
                        generalize h_up s235 98 13 2 = s246 at Is246 Fs246 es246_0 es246_1 es246_2 es246_3 es246_4 es246_5 es246_6 es246_7 es246_8 ⊢
                        refine h_aload_n (pc' := 13) rfl rfl rfl ?_
                        refine h_aload_n (pc' := 14) rfl rfl rfl ?_
                        refine h_getI (pc' := 17) (v := s246 98 16) rfl rfl rfl rfl rfl rfl (fun z247 hz247 => ?_)
                        have tz247 := tf_98_16 Is246
                        refine h_put (pc' := 20) rfl rfl rfl rfl rfl rfl hz247 rfl ?_
                        have Is248 : h_I (h_up s246 98 14 (s246 98 16)) := (if_98_14 Is246 (h_rgv hz247))
                        have Fs248 := (Fs246.up (q := 98) (a := 14) (v := (s246 98 16)) rfl)
                        have es248_0 : h_up s246 98 14 (s246 98 16) 98 15 = s246 98 15 := rfl
                        have es248_1 : h_up s246 98 14 (s246 98 16) 98 16 = s246 98 16 := rfl
                        have es248_2 : h_up s246 98 14 (s246 98 16) 98 17 = s246 98 17 := rfl
                        have es248_3 : h_up s246 98 14 (s246 98 16) 98 18 = s246 98 18 := rfl
                        have es248_4 : h_up s246 98 14 (s246 98 16) 98 13 = s246 98 13 := rfl
                        have es248_5 : h_up s246 98 14 (s246 98 16) 98 5 = s246 98 5 := rfl
                        have es248_6 : h_up s246 98 14 (s246 98 16) 98 6 = s246 98 6 := rfl
                        have es248_7 : h_up s246 98 14 (s246 98 16) 101 18 = s246 101 18 := rfl
                        have es248_8 : h_up s246 98 14 (s246 98 16) 101 25 = s246 101 25 := rfl
                        generalize h_up s246 98 14 (s246 98 16) = s248 at Is248 Fs248 es248_0 es248_1 es248_2 es248_3 es248_4 es248_5 es248_6 es248_7 es248_8 ⊢
                        refine h_vret rfl rfl (h_Kn ?_)
                        refine h_aload_n (pc' := 166) rfl rfl rfl ?_
                        refine h_call (sp := false) (pc' := 169) (M := [(0, .ref 98)]) rfl rfl rfl rfl rfl rfl rfl rfl ?_
                        refine v_step _ Is248  (fun s250 Is250 Gs250 ps250_0 ps250_1 ps250_2 => h_Kn ?_)
                        have Fs250 := (Gs250.l1).tr Fs248
                        have es250_5 : s250 98 5 = s248 98 5 := Gs250 98 5 rfl
                        have es250_6 : s250 98 6 = s248 98 6 := Gs250 98 6 rfl
                        have es250_7 : s250 101 18 = s248 101 18 := Gs250 101 18 rfl
                        have es250_8 : s250 101 25 = s248 101 25 := Gs250 101 25 rfl
                        exact h_vret rfl rfl (kk _ Is250 Fs250 (by omega) (by omega))
                  · exact h_vret rfl rfl (kk _ Is231 Fs231 (by omega) (by omega))
                · refine h_iload_n (pc' := 115) rfl rfl rfl ?_
                  refine h_bipush (pc' := 117) (x := (Int32.ofInt 7)) rfl rfl cb_7 ?_
                  refine h_cne (tg := 124) (pc' := 120) rfl rfl rfl hr1 ci_7 (fun c251 => ?_) (fun c251 => absurd c251 (by omega))
                  refine h_iconst (pc' := 125) (x := (Int32.ofInt 0)) rfl rfl rfl ?_
                  refine h_put (pc' := 128) rfl rfl rfl rfl rfl rfl ci_0 (h_fb ci_0 (by omega)) ?_
                  have Is252 : h_I (h_up s225 98 7 0) := (if_98_7 Is225 (by omega))
                  have Fs252 := (Fs225.up (q := 98) (a := 7) (v := 0) rfl)
                  have es252_0 : h_up s225 98 7 0 98 15 = s225 98 15 := rfl
                  have es252_1 : h_up s225 98 7 0 98 16 = s225 98 16 := rfl
                  have es252_2 : h_up s225 98 7 0 98 17 = s225 98 17 := rfl
                  have es252_3 : h_up s225 98 7 0 98 18 = s225 98 18 := rfl
                  have es252_4 : h_up s225 98 7 0 98 13 = s225 98 13 := rfl
                  have es252_5 : h_up s225 98 7 0 98 5 = s225 98 5 := rfl
                  have es252_6 : h_up s225 98 7 0 98 6 = s225 98 6 := rfl
                  have es252_7 : h_up s225 98 7 0 101 18 = s225 101 18 := rfl
                  have es252_8 : h_up s225 98 7 0 101 25 = s225 101 25 := rfl
                  generalize h_up s225 98 7 0 = s252 at Is252 Fs252 es252_0 es252_1 es252_2 es252_3 es252_4 es252_5 es252_6 es252_7 es252_8 ⊢
                  refine h_aload_n (pc' := 129) rfl rfl rfl ?_
                  refine h_call (sp := false) (pc' := 132) (M := [(0, .ref 98)]) rfl rfl rfl rfl rfl rfl rfl rfl ?_
                  refine v_step _ Is252  (fun s254 Is254 Gs254 ps254_0 ps254_1 ps254_2 => h_Kn ?_)
                  have Fs254 := (Gs254.l1).tr Fs252
                  have es254_5 : s254 98 5 = s252 98 5 := Gs254 98 5 rfl
                  have es254_6 : s254 98 6 = s252 98 6 := Gs254 98 6 rfl
                  have es254_7 : s254 101 18 = s252 101 18 := Gs254 101 18 rfl
                  have es254_8 : s254 101 25 = s252 101 25 := Gs254 101 25 rfl
                  refine h_aload_n (pc' := 133) rfl rfl rfl ?_
                  refine h_getI (pc' := 136) (v := s254 98 13) rfl rfl rfl rfl rfl rfl (fun z255 hz255 => ?_)
                  have tz255 := tf_98_13 Is254
                  refine h_zle (tg := 140) (pc' := 139) rfl rfl rfl hz255 (fun c256 => ?_) (fun c256 => ?_)
                  · refine h_aload_n (pc' := 141) rfl rfl rfl ?_
                    refine h_iload_n (pc' := 142) rfl rfl rfl ?_
                    refine h_call (sp := false) (pc' := 145) (M := [(0, .ref 98), (1, .int r1)]) rfl rfl rfl rfl rfl rfl rfl rfl ?_
                    refine v_readMore _ Is254 r1 _ hr1 (by omega) (by omega) (by omega) (by omega) (by omega) (fun s258 Is258 Gs258 ps258_0 ps258_1 => h_Kn ?_)
                    have Fs258 := (Gs258).tr Fs254
                    refine h_aload_n (pc' := 146) rfl rfl rfl ?_
                    refine h_getI (pc' := 149) (v := s258 98 13) rfl rfl rfl rfl rfl rfl (fun z259 hz259 => ?_)
                    have tz259 := tf_98_13 Is258
                    refine h_zne (tg := 165) (pc' := 152) rfl rfl rfl hz259 (fun c260 => ?_) (fun c260 => ?_)
                    · refine h_aload_n (pc' := 166) rfl rfl rfl ?_
                      refine h_call (sp := false) (pc' := 169) (M := [(0, .ref 98)]) rfl rfl rfl rfl rfl rfl rfl rfl ?_
                      refine v_step _ Is258  (fun s262 Is262 Gs262 ps262_0 ps262_1 ps262_2 => h_Kn ?_)
                      have Fs262 := (Gs262.l1).tr Fs258
                      have es262_5 : s262 98 5 = s258 98 5 := Gs262 98 5 rfl
                      have es262_6 : s262 98 6 = s258 98 6 := Gs262 98 6 rfl
                      have es262_7 : s262 101 18 = s258 101 18 := Gs262 101 18 rfl
                      have es262_8 : s262 101 25 = s258 101 25 := Gs262 101 25 rfl
                      exact h_vret rfl rfl (kk _ Is262 Fs262 (by omega) (by omega))
                    · refine h_aload_n (pc' := 153) rfl rfl rfl ?_
                      refine h_getI (pc' := 156) (v := s258 98 17) rfl rfl rfl rfl rfl rfl (fun z263 hz263 => ?_)
                      have tz263 := tf_98_17 Is258
                      refine h_iconst (pc' := 157) (x := (Int32.ofInt 3)) rfl rfl rfl ?_
                      refine h_ceq (tg := 165) (pc' := 160) rfl rfl rfl hz263 ci_3 (fun c264 => ?_) (fun c264 => ?_)
                      · refine h_aload_n (pc' := 166) rfl rfl rfl ?_
                        refine h_call (sp := false) (pc' := 169) (M := [(0, .ref 98)]) rfl rfl rfl rfl rfl rfl rfl rfl ?_
                        refine v_step _ Is258  (fun s266 Is266 Gs266 ps266_0 ps266_1 ps266_2 => h_Kn ?_)
                        have Fs266 := (Gs266.l1).tr Fs258
                        have es266_5 : s266 98 5 = s258 98 5 := Gs266 98 5 rfl
                        have es266_6 : s266 98 6 = s258 98 6 := Gs266 98 6 rfl
                        have es266_7 : s266 101 18 = s258 101 18 := Gs266 101 18 rfl
                        have es266_8 : s266 101 25 = s258 101 25 := Gs266 101 25 rfl
                        exact h_vret rfl rfl (kk _ Is266 Fs266 (by omega) (by omega))
                      · refine h_aload_n (pc' := 161) rfl rfl rfl ?_
                        refine h_iconst (pc' := 162) (x := (Int32.ofInt 2)) rfl rfl rfl ?_
                        refine h_call (sp := false) (pc' := 165) (M := [(0, .ref 98), (1, .int (Int32.ofInt 2))]) rfl rfl rfl rfl rfl rfl rfl rfl ?_
                        refine h_aload_n (pc' := 1) rfl rfl rfl ?_
                        refine h_getI (pc' := 4) (v := s258 98 13) rfl rfl rfl rfl rfl rfl (fun z267 hz267 => ?_)
                        have tz267 := tf_98_13 Is258
                        refine h_zne (tg := 20) (pc' := 7) rfl rfl rfl hz267 (fun c268 => absurd c268 (by omega)) (fun c268 => ?_)
                        refine h_aload_n (pc' := 8) rfl rfl rfl ?_
                        refine h_iload_n (pc' := 9) rfl rfl rfl ?_
                        refine h_put (pc' := 12) rfl rfl rfl rfl rfl rfl ci_2 rfl ?_
                        have Is269 : h_I (h_up s258 98 13 2) := (if_98_13 Is258 (by omega))
                        have Fs269 := (Fs258.up (q := 98) (a := 13) (v := 2) rfl)
                        have es269_0 : h_up s258 98 13 2 98 15 = s258 98 15 := rfl
                        have es269_1 : h_up s258 98 13 2 98 16 = s258 98 16 := rfl
                        have es269_2 : h_up s258 98 13 2 98 17 = s258 98 17 := rfl
                        have es269_3 : h_up s258 98 13 2 98 18 = s258 98 18 := rfl
                        have es269_4 : h_up s258 98 13 2 98 13 = 2 := rfl
                        have es269_5 : h_up s258 98 13 2 98 5 = s258 98 5 := rfl
                        have es269_6 : h_up s258 98 13 2 98 6 = s258 98 6 := rfl
                        have es269_7 : h_up s258 98 13 2 101 18 = s258 101 18 := rfl
                        have es269_8 : h_up s258 98 13 2 101 25 = s258 101 25 := rfl
                        generalize h_up s258 98 13 2 = s269 at Is269 Fs269 es269_0 es269_1 es269_2 es269_3 es269_4 es269_5 es269_6 es269_7 es269_8 ⊢
                        refine h_aload_n (pc' := 13) rfl rfl rfl ?_
                        refine h_aload_n (pc' := 14) rfl rfl rfl ?_
                        refine h_getI (pc' := 17) (v := s269 98 16) rfl rfl rfl rfl rfl rfl (fun z270 hz270 => ?_)
                        have tz270 := tf_98_16 Is269
                        refine h_put (pc' := 20) rfl rfl rfl rfl rfl rfl hz270 rfl ?_
                        have Is271 : h_I (h_up s269 98 14 (s269 98 16)) := (if_98_14 Is269 (h_rgv hz270))
                        have Fs271 := (Fs269.up (q := 98) (a := 14) (v := (s269 98 16)) rfl)
                        have es271_0 : h_up s269 98 14 (s269 98 16) 98 15 = s269 98 15 := rfl
                        have es271_1 : h_up s269 98 14 (s269 98 16) 98 16 = s269 98 16 := rfl
                        have es271_2 : h_up s269 98 14 (s269 98 16) 98 17 = s269 98 17 := rfl
                        have es271_3 : h_up s269 98 14 (s269 98 16) 98 18 = s269 98 18 := rfl
                        have es271_4 : h_up s269 98 14 (s269 98 16) 98 13 = s269 98 13 := rfl
                        have es271_5 : h_up s269 98 14 (s269 98 16) 98 5 = s269 98 5 := rfl
                        have es271_6 : h_up s269 98 14 (s269 98 16) 98 6 = s269 98 6 := rfl
                        have es271_7 : h_up s269 98 14 (s269 98 16) 101 18 = s269 101 18 := rfl
                        have es271_8 : h_up s269 98 14 (s269 98 16) 101 25 = s269 101 25 := rfl
                        generalize h_up s269 98 14 (s269 98 16) = s271 at Is271 Fs271 es271_0 es271_1 es271_2 es271_3 es271_4 es271_5 es271_6 es271_7 es271_8 ⊢
                        refine h_vret rfl rfl (h_Kn ?_)
                        refine h_aload_n (pc' := 166) rfl rfl rfl ?_
                        refine h_call (sp := false) (pc' := 169) (M := [(0, .ref 98)]) rfl rfl rfl rfl rfl rfl rfl rfl ?_
                        refine v_step _ Is271  (fun s273 Is273 Gs273 ps273_0 ps273_1 ps273_2 => h_Kn ?_)
                        have Fs273 := (Gs273.l1).tr Fs271
                        have es273_5 : s273 98 5 = s271 98 5 := Gs273 98 5 rfl
                        have es273_6 : s273 98 6 = s271 98 6 := Gs273 98 6 rfl
                        have es273_7 : s273 101 18 = s271 101 18 := Gs273 101 18 rfl
                        have es273_8 : s273 101 25 = s271 101 25 := Gs273 101 25 rfl
                        exact h_vret rfl rfl (kk _ Is273 Fs273 (by omega) (by omega))
                  · exact h_vret rfl rfl (kk _ Is254 Fs254 (by omega) (by omega))
        · refine h_aload_n (pc' := 59) rfl rfl rfl ?_
          refine h_getR (pc' := 62) rfl rfl rfl rfl rfl ?_
          refine h_bipush (pc' := 64) (x := (Int32.ofInt 25)) rfl rfl cb_25 ?_
          refine h_iald (pc' := 65) (v := σ 101 25) rfl rfl rfl ci_25 (by omega) (by omega) rfl (fun z274 hz274 => ?_)
          have tz274 := ty_101_5 hI 25 (by omega)
          refine h_iconst (pc' := 66) (x := (Int32.ofInt 3)) rfl rfl rfl ?_
          refine h_ceq (tg := 83) (pc' := 69) rfl rfl rfl hz274 ci_3 (fun c275 => ?_) (fun c275 => ?_)
          · refine h_aload_n (pc' := 84) rfl rfl rfl ?_
            refine h_iconst (pc' := 85) (x := (Int32.ofInt 5)) rfl rfl rfl ?_
            refine h_call (sp := false) (pc' := 88) (M := [(0, .ref 98), (1, .int (Int32.ofInt 5))]) rfl rfl rfl rfl rfl rfl rfl rfl ?_
            refine h_aload_n (pc' := 1) rfl rfl rfl ?_
            refine h_getI (pc' := 4) (v := σ 98 13) rfl rfl rfl rfl rfl rfl (fun z276 hz276 => ?_)
            have tz276 := tf_98_13 hI
            refine h_zne (tg := 20) (pc' := 7) rfl rfl rfl hz276 (fun c277 => ?_) (fun c277 => ?_)
            · refine h_vret rfl rfl (h_Kn ?_)
              refine h_iload_n (pc' := 89) rfl rfl rfl ?_
              refine h_bipush (pc' := 91) (x := (Int32.ofInt 7)) rfl rfl cb_7 ?_
              refine h_cne (tg := 106) (pc' := 94) rfl rfl rfl hr1 ci_7 (fun c278 => ?_) (fun c278 => absurd c278 (by omega))
              refine h_aload_n (pc' := 107) rfl rfl rfl ?_
              refine h_aload_n (pc' := 108) rfl rfl rfl ?_
              refine h_getI (pc' := 111) (v := σ 98 7) rfl rfl rfl rfl rfl rfl (fun z279 hz279 => ?_)
              have tz279 := tf_98_7 hI
              refine h_zne (tg := 120) (pc' := 114) rfl rfl rfl hz279 (fun c280 => ?_) (fun c280 => ?_)
              · refine h_iconst (pc' := 121) (x := (Int32.ofInt 1)) rfl rfl rfl ?_
                refine h_goto (pc' := 125) rfl rfl ?_
                refine h_put (pc' := 128) rfl rfl rfl rfl rfl rfl ci_1 (h_fb ci_1 (by omega)) ?_
                have Is281 : h_I (h_up σ 98 7 1) := (if_98_7 hI (by omega))
                have Fs281 := (F00.up (q := 98) (a := 7) (v := 1) rfl)
                have es281_0 : h_up σ 98 7 1 98 15 = σ 98 15 := rfl
                have es281_1 : h_up σ 98 7 1 98 16 = σ 98 16 := rfl
                have es281_2 : h_up σ 98 7 1 98 17 = σ 98 17 := rfl
                have es281_3 : h_up σ 98 7 1 98 18 = σ 98 18 := rfl
                have es281_4 : h_up σ 98 7 1 98 13 = σ 98 13 := rfl
                have es281_5 : h_up σ 98 7 1 98 5 = σ 98 5 := rfl
                have es281_6 : h_up σ 98 7 1 98 6 = σ 98 6 := rfl
                have es281_7 : h_up σ 98 7 1 101 18 = σ 101 18 := rfl
                have es281_8 : h_up σ 98 7 1 101 25 = σ 101 25 := rfl
                generalize h_up σ 98 7 1 = s281 at Is281 Fs281 es281_0 es281_1 es281_2 es281_3 es281_4 es281_5 es281_6 es281_7 es281_8 ⊢
                refine h_aload_n (pc' := 129) rfl rfl rfl ?_
                refine h_call (sp := false) (pc' := 132) (M := [(0, .ref 98)]) rfl rfl rfl rfl rfl rfl rfl rfl ?_
                refine v_step _ Is281  (fun s283 Is283 Gs283 ps283_0 ps283_1 ps283_2 => h_Kn ?_)
                have Fs283 := (Gs283.l1).tr Fs281
                have es283_5 : s283 98 5 = s281 98 5 := Gs283 98 5 rfl
                have es283_6 : s283 98 6 = s281 98 6 := Gs283 98 6 rfl
                have es283_7 : s283 101 18 = s281 101 18 := Gs283 101 18 rfl
                have es283_8 : s283 101 25 = s281 101 25 := Gs283 101 25 rfl
                refine h_aload_n (pc' := 133) rfl rfl rfl ?_
                refine h_getI (pc' := 136) (v := s283 98 13) rfl rfl rfl rfl rfl rfl (fun z284 hz284 => ?_)
                have tz284 := tf_98_13 Is283
                refine h_zle (tg := 140) (pc' := 139) rfl rfl rfl hz284 (fun c285 => ?_) (fun c285 => ?_)
                · refine h_aload_n (pc' := 141) rfl rfl rfl ?_
                  refine h_iload_n (pc' := 142) rfl rfl rfl ?_
                  refine h_call (sp := false) (pc' := 145) (M := [(0, .ref 98), (1, .int r1)]) rfl rfl rfl rfl rfl rfl rfl rfl ?_
                  refine v_readMore _ Is283 r1 _ hr1 (by omega) (by omega) (by omega) (by omega) (by omega) (fun s287 Is287 Gs287 ps287_0 ps287_1 => h_Kn ?_)
                  have Fs287 := (Gs287).tr Fs283
                  refine h_aload_n (pc' := 146) rfl rfl rfl ?_
                  refine h_getI (pc' := 149) (v := s287 98 13) rfl rfl rfl rfl rfl rfl (fun z288 hz288 => ?_)
                  have tz288 := tf_98_13 Is287
                  refine h_zne (tg := 165) (pc' := 152) rfl rfl rfl hz288 (fun c289 => ?_) (fun c289 => ?_)
                  · refine h_aload_n (pc' := 166) rfl rfl rfl ?_
                    refine h_call (sp := false) (pc' := 169) (M := [(0, .ref 98)]) rfl rfl rfl rfl rfl rfl rfl rfl ?_
                    refine v_step _ Is287  (fun s291 Is291 Gs291 ps291_0 ps291_1 ps291_2 => h_Kn ?_)
                    have Fs291 := (Gs291.l1).tr Fs287
                    have es291_5 : s291 98 5 = s287 98 5 := Gs291 98 5 rfl
                    have es291_6 : s291 98 6 = s287 98 6 := Gs291 98 6 rfl
                    have es291_7 : s291 101 18 = s287 101 18 := Gs291 101 18 rfl
                    have es291_8 : s291 101 25 = s287 101 25 := Gs291 101 25 rfl
                    exact h_vret rfl rfl (kk _ Is291 Fs291 (by omega) (by omega))
                  · refine h_aload_n (pc' := 153) rfl rfl rfl ?_
                    refine h_getI (pc' := 156) (v := s287 98 17) rfl rfl rfl rfl rfl rfl (fun z292 hz292 => ?_)
                    have tz292 := tf_98_17 Is287
                    refine h_iconst (pc' := 157) (x := (Int32.ofInt 3)) rfl rfl rfl ?_
                    refine h_ceq (tg := 165) (pc' := 160) rfl rfl rfl hz292 ci_3 (fun c293 => ?_) (fun c293 => ?_)
                    · refine h_aload_n (pc' := 166) rfl rfl rfl ?_
                      refine h_call (sp := false) (pc' := 169) (M := [(0, .ref 98)]) rfl rfl rfl rfl rfl rfl rfl rfl ?_
                      refine v_step _ Is287  (fun s295 Is295 Gs295 ps295_0 ps295_1 ps295_2 => h_Kn ?_)
                      have Fs295 := (Gs295.l1).tr Fs287
                      have es295_5 : s295 98 5 = s287 98 5 := Gs295 98 5 rfl
                      have es295_6 : s295 98 6 = s287 98 6 := Gs295 98 6 rfl
                      have es295_7 : s295 101 18 = s287 101 18 := Gs295 101 18 rfl
                      have es295_8 : s295 101 25 = s287 101 25 := Gs295 101 25 rfl
                      exact h_vret rfl rfl (kk _ Is295 Fs295 (by omega) (by omega))
                    · refine h_aload_n (pc' := 161) rfl rfl rfl ?_
                      refine h_iconst (pc' := 162) (x := (Int32.ofInt 2)) rfl rfl rfl ?_
                      refine h_call (sp := false) (pc' := 165) (M := [(0, .ref 98), (1, .int (Int32.ofInt 2))]) rfl rfl rfl rfl rfl rfl rfl rfl ?_
                      refine h_aload_n (pc' := 1) rfl rfl rfl ?_
                      refine h_getI (pc' := 4) (v := s287 98 13) rfl rfl rfl rfl rfl rfl (fun z296 hz296 => ?_)
                      have tz296 := tf_98_13 Is287
                      refine h_zne (tg := 20) (pc' := 7) rfl rfl rfl hz296 (fun c297 => absurd c297 (by omega)) (fun c297 => ?_)
                      refine h_aload_n (pc' := 8) rfl rfl rfl ?_
                      refine h_iload_n (pc' := 9) rfl rfl rfl ?_
                      refine h_put (pc' := 12) rfl rfl rfl rfl rfl rfl ci_2 rfl ?_
                      have Is298 : h_I (h_up s287 98 13 2) := (if_98_13 Is287 (by omega))
                      have Fs298 := (Fs287.up (q := 98) (a := 13) (v := 2) rfl)
                      have es298_0 : h_up s287 98 13 2 98 15 = s287 98 15 := rfl
                      have es298_1 : h_up s287 98 13 2 98 16 = s287 98 16 := rfl
                      have es298_2 : h_up s287 98 13 2 98 17 = s287 98 17 := rfl
                      have es298_3 : h_up s287 98 13 2 98 18 = s287 98 18 := rfl
                      have es298_4 : h_up s287 98 13 2 98 13 = 2 := rfl
                      have es298_5 : h_up s287 98 13 2 98 5 = s287 98 5 := rfl
                      have es298_6 : h_up s287 98 13 2 98 6 = s287 98 6 := rfl
                      have es298_7 : h_up s287 98 13 2 101 18 = s287 101 18 := rfl
                      have es298_8 : h_up s287 98 13 2 101 25 = s287 101 25 := rfl
                      generalize h_up s287 98 13 2 = s298 at Is298 Fs298 es298_0 es298_1 es298_2 es298_3 es298_4 es298_5 es298_6 es298_7 es298_8 ⊢
                      refine h_aload_n (pc' := 13) rfl rfl rfl ?_
                      refine h_aload_n (pc' := 14) rfl rfl rfl ?_
                      refine h_getI (pc' := 17) (v := s298 98 16) rfl rfl rfl rfl rfl rfl (fun z299 hz299 => ?_)
                      have tz299 := tf_98_16 Is298
                      refine h_put (pc' := 20) rfl rfl rfl rfl rfl rfl hz299 rfl ?_
                      have Is300 : h_I (h_up s298 98 14 (s298 98 16)) := (if_98_14 Is298 (h_rgv hz299))
                      have Fs300 := (Fs298.up (q := 98) (a := 14) (v := (s298 98 16)) rfl)
                      have es300_0 : h_up s298 98 14 (s298 98 16) 98 15 = s298 98 15 := rfl
                      have es300_1 : h_up s298 98 14 (s298 98 16) 98 16 = s298 98 16 := rfl
                      have es300_2 : h_up s298 98 14 (s298 98 16) 98 17 = s298 98 17 := rfl
                      have es300_3 : h_up s298 98 14 (s298 98 16) 98 18 = s298 98 18 := rfl
                      have es300_4 : h_up s298 98 14 (s298 98 16) 98 13 = s298 98 13 := rfl
                      have es300_5 : h_up s298 98 14 (s298 98 16) 98 5 = s298 98 5 := rfl
                      have es300_6 : h_up s298 98 14 (s298 98 16) 98 6 = s298 98 6 := rfl
                      have es300_7 : h_up s298 98 14 (s298 98 16) 101 18 = s298 101 18 := rfl
                      have es300_8 : h_up s298 98 14 (s298 98 16) 101 25 = s298 101 25 := rfl
                      generalize h_up s298 98 14 (s298 98 16) = s300 at Is300 Fs300 es300_0 es300_1 es300_2 es300_3 es300_4 es300_5 es300_6 es300_7 es300_8 ⊢
                      refine h_vret rfl rfl (h_Kn ?_)
                      refine h_aload_n (pc' := 166) rfl rfl rfl ?_
                      refine h_call (sp := false) (pc' := 169) (M := [(0, .ref 98)]) rfl rfl rfl rfl rfl rfl rfl rfl ?_
                      refine v_step _ Is300  (fun s302 Is302 Gs302 ps302_0 ps302_1 ps302_2 => h_Kn ?_)
                      have Fs302 := (Gs302.l1).tr Fs300
                      have es302_5 : s302 98 5 = s300 98 5 := Gs302 98 5 rfl
                      have es302_6 : s302 98 6 = s300 98 6 := Gs302 98 6 rfl
                      have es302_7 : s302 101 18 = s300 101 18 := Gs302 101 18 rfl
                      have es302_8 : s302 101 25 = s300 101 25 := Gs302 101 25 rfl
                      exact h_vret rfl rfl (kk _ Is302 Fs302 (by omega) (by omega))
                · exact h_vret rfl rfl (kk _ Is283 Fs283 (by omega) (by omega))
              · refine h_iload_n (pc' := 115) rfl rfl rfl ?_
                refine h_bipush (pc' := 117) (x := (Int32.ofInt 7)) rfl rfl cb_7 ?_
                refine h_cne (tg := 124) (pc' := 120) rfl rfl rfl hr1 ci_7 (fun c303 => ?_) (fun c303 => absurd c303 (by omega))
                refine h_iconst (pc' := 125) (x := (Int32.ofInt 0)) rfl rfl rfl ?_
                refine h_put (pc' := 128) rfl rfl rfl rfl rfl rfl ci_0 (h_fb ci_0 (by omega)) ?_
                have Is304 : h_I (h_up σ 98 7 0) := (if_98_7 hI (by omega))
                have Fs304 := (F00.up (q := 98) (a := 7) (v := 0) rfl)
                have es304_0 : h_up σ 98 7 0 98 15 = σ 98 15 := rfl
                have es304_1 : h_up σ 98 7 0 98 16 = σ 98 16 := rfl
                have es304_2 : h_up σ 98 7 0 98 17 = σ 98 17 := rfl
                have es304_3 : h_up σ 98 7 0 98 18 = σ 98 18 := rfl
                have es304_4 : h_up σ 98 7 0 98 13 = σ 98 13 := rfl
                have es304_5 : h_up σ 98 7 0 98 5 = σ 98 5 := rfl
                have es304_6 : h_up σ 98 7 0 98 6 = σ 98 6 := rfl
                have es304_7 : h_up σ 98 7 0 101 18 = σ 101 18 := rfl
                have es304_8 : h_up σ 98 7 0 101 25 = σ 101 25 := rfl
                generalize h_up σ 98 7 0 = s304 at Is304 Fs304 es304_0 es304_1 es304_2 es304_3 es304_4 es304_5 es304_6 es304_7 es304_8 ⊢
                refine h_aload_n (pc' := 129) rfl rfl rfl ?_
                refine h_call (sp := false) (pc' := 132) (M := [(0, .ref 98)]) rfl rfl rfl rfl rfl rfl rfl rfl ?_
                refine v_step _ Is304  (fun s306 Is306 Gs306 ps306_0 ps306_1 ps306_2 => h_Kn ?_)
                have Fs306 := (Gs306.l1).tr Fs304
                have es306_5 : s306 98 5 = s304 98 5 := Gs306 98 5 rfl
                have es306_6 : s306 98 6 = s304 98 6 := Gs306 98 6 rfl
                have es306_7 : s306 101 18 = s304 101 18 := Gs306 101 18 rfl
                have es306_8 : s306 101 25 = s304 101 25 := Gs306 101 25 rfl
                refine h_aload_n (pc' := 133) rfl rfl rfl ?_
                refine h_getI (pc' := 136) (v := s306 98 13) rfl rfl rfl rfl rfl rfl (fun z307 hz307 => ?_)
                have tz307 := tf_98_13 Is306
                refine h_zle (tg := 140) (pc' := 139) rfl rfl rfl hz307 (fun c308 => ?_) (fun c308 => ?_)
                · refine h_aload_n (pc' := 141) rfl rfl rfl ?_
                  refine h_iload_n (pc' := 142) rfl rfl rfl ?_
                  refine h_call (sp := false) (pc' := 145) (M := [(0, .ref 98), (1, .int r1)]) rfl rfl rfl rfl rfl rfl rfl rfl ?_
                  refine v_readMore _ Is306 r1 _ hr1 (by omega) (by omega) (by omega) (by omega) (by omega) (fun s310 Is310 Gs310 ps310_0 ps310_1 => h_Kn ?_)
                  have Fs310 := (Gs310).tr Fs306
                  refine h_aload_n (pc' := 146) rfl rfl rfl ?_
                  refine h_getI (pc' := 149) (v := s310 98 13) rfl rfl rfl rfl rfl rfl (fun z311 hz311 => ?_)
                  have tz311 := tf_98_13 Is310
                  refine h_zne (tg := 165) (pc' := 152) rfl rfl rfl hz311 (fun c312 => ?_) (fun c312 => ?_)
                  · refine h_aload_n (pc' := 166) rfl rfl rfl ?_
                    refine h_call (sp := false) (pc' := 169) (M := [(0, .ref 98)]) rfl rfl rfl rfl rfl rfl rfl rfl ?_
                    refine v_step _ Is310  (fun s314 Is314 Gs314 ps314_0 ps314_1 ps314_2 => h_Kn ?_)
                    have Fs314 := (Gs314.l1).tr Fs310
                    have es314_5 : s314 98 5 = s310 98 5 := Gs314 98 5 rfl
                    have es314_6 : s314 98 6 = s310 98 6 := Gs314 98 6 rfl
                    have es314_7 : s314 101 18 = s310 101 18 := Gs314 101 18 rfl
                    have es314_8 : s314 101 25 = s310 101 25 := Gs314 101 25 rfl
                    exact h_vret rfl rfl (kk _ Is314 Fs314 (by omega) (by omega))
                  · refine h_aload_n (pc' := 153) rfl rfl rfl ?_
                    refine h_getI (pc' := 156) (v := s310 98 17) rfl rfl rfl rfl rfl rfl (fun z315 hz315 => ?_)
                    have tz315 := tf_98_17 Is310
                    refine h_iconst (pc' := 157) (x := (Int32.ofInt 3)) rfl rfl rfl ?_
                    refine h_ceq (tg := 165) (pc' := 160) rfl rfl rfl hz315 ci_3 (fun c316 => ?_) (fun c316 => ?_)
                    · refine h_aload_n (pc' := 166) rfl rfl rfl ?_
                      refine h_call (sp := false) (pc' := 169) (M := [(0, .ref 98)]) rfl rfl rfl rfl rfl rfl rfl rfl ?_
                      refine v_step _ Is310  (fun s318 Is318 Gs318 ps318_0 ps318_1 ps318_2 => h_Kn ?_)
                      have Fs318 := (Gs318.l1).tr Fs310
                      have es318_5 : s318 98 5 = s310 98 5 := Gs318 98 5 rfl
                      have es318_6 : s318 98 6 = s310 98 6 := Gs318 98 6 rfl
                      have es318_7 : s318 101 18 = s310 101 18 := Gs318 101 18 rfl
                      have es318_8 : s318 101 25 = s310 101 25 := Gs318 101 25 rfl
                      exact h_vret rfl rfl (kk _ Is318 Fs318 (by omega) (by omega))
                    · refine h_aload_n (pc' := 161) rfl rfl rfl ?_
                      refine h_iconst (pc' := 162) (x := (Int32.ofInt 2)) rfl rfl rfl ?_
                      refine h_call (sp := false) (pc' := 165) (M := [(0, .ref 98), (1, .int (Int32.ofInt 2))]) rfl rfl rfl rfl rfl rfl rfl rfl ?_
                      refine h_aload_n (pc' := 1) rfl rfl rfl ?_
                      refine h_getI (pc' := 4) (v := s310 98 13) rfl rfl rfl rfl rfl rfl (fun z319 hz319 => ?_)
                      have tz319 := tf_98_13 Is310
                      refine h_zne (tg := 20) (pc' := 7) rfl rfl rfl hz319 (fun c320 => absurd c320 (by omega)) (fun c320 => ?_)
                      refine h_aload_n (pc' := 8) rfl rfl rfl ?_
                      refine h_iload_n (pc' := 9) rfl rfl rfl ?_
                      refine h_put (pc' := 12) rfl rfl rfl rfl rfl rfl ci_2 rfl ?_
                      have Is321 : h_I (h_up s310 98 13 2) := (if_98_13 Is310 (by omega))
                      have Fs321 := (Fs310.up (q := 98) (a := 13) (v := 2) rfl)
                      have es321_0 : h_up s310 98 13 2 98 15 = s310 98 15 := rfl
                      have es321_1 : h_up s310 98 13 2 98 16 = s310 98 16 := rfl
                      have es321_2 : h_up s310 98 13 2 98 17 = s310 98 17 := rfl
                      have es321_3 : h_up s310 98 13 2 98 18 = s310 98 18 := rfl
                      have es321_4 : h_up s310 98 13 2 98 13 = 2 := rfl
                      have es321_5 : h_up s310 98 13 2 98 5 = s310 98 5 := rfl
                      have es321_6 : h_up s310 98 13 2 98 6 = s310 98 6 := rfl
                      have es321_7 : h_up s310 98 13 2 101 18 = s310 101 18 := rfl
                      have es321_8 : h_up s310 98 13 2 101 25 = s310 101 25 := rfl
                      generalize h_up s310 98 13 2 = s321 at Is321 Fs321 es321_0 es321_1 es321_2 es321_3 es321_4 es321_5 es321_6 es321_7 es321_8 ⊢
                      refine h_aload_n (pc' := 13) rfl rfl rfl ?_
                      refine h_aload_n (pc' := 14) rfl rfl rfl ?_
                      refine h_getI (pc' := 17) (v := s321 98 16) rfl rfl rfl rfl rfl rfl (fun z322 hz322 => ?_)
                      have tz322 := tf_98_16 Is321
                      refine h_put (pc' := 20) rfl rfl rfl rfl rfl rfl hz322 rfl ?_
                      have Is323 : h_I (h_up s321 98 14 (s321 98 16)) := (if_98_14 Is321 (h_rgv hz322))
                      have Fs323 := (Fs321.up (q := 98) (a := 14) (v := (s321 98 16)) rfl)
                      have es323_0 : h_up s321 98 14 (s321 98 16) 98 15 = s321 98 15 := rfl
                      have es323_1 : h_up s321 98 14 (s321 98 16) 98 16 = s321 98 16 := rfl
                      have es323_2 : h_up s321 98 14 (s321 98 16) 98 17 = s321 98 17 := rfl
                      have es323_3 : h_up s321 98 14 (s321 98 16) 98 18 = s321 98 18 := rfl
                      have es323_4 : h_up s321 98 14 (s321 98 16) 98 13 = s321 98 13 := rfl
                      have es323_5 : h_up s321 98 14 (s321 98 16) 98 5 = s321 98 5 := rfl
                      have es323_6 : h_up s321 98 14 (s321 98 16) 98 6 = s321 98 6 := rfl
                      have es323_7 : h_up s321 98 14 (s321 98 16) 101 18 = s321 101 18 := rfl
                      have es323_8 : h_up s321 98 14 (s321 98 16) 101 25 = s321 101 25 := rfl
                      generalize h_up s321 98 14 (s321 98 16) = s323 at Is323 Fs323 es323_0 es323_1 es323_2 es323_3 es323_4 es323_5 es323_6 es323_7 es323_8 ⊢
                      refine h_vret rfl rfl (h_Kn ?_)
                      refine h_aload_n (pc' := 166) rfl rfl rfl ?_
                      refine h_call (sp := false) (pc' := 169) (M := [(0, .ref 98)]) rfl rfl rfl rfl rfl rfl rfl rfl ?_
                      refine v_step _ Is323  (fun s325 Is325 Gs325 ps325_0 ps325_1 ps325_2 => h_Kn ?_)
                      have Fs325 := (Gs325.l1).tr Fs323
                      have es325_5 : s325 98 5 = s323 98 5 := Gs325 98 5 rfl
                      have es325_6 : s325 98 6 = s323 98 6 := Gs325 98 6 rfl
                      have es325_7 : s325 101 18 = s323 101 18 := Gs325 101 18 rfl
                      have es325_8 : s325 101 25 = s323 101 25 := Gs325 101 25 rfl
                      exact h_vret rfl rfl (kk _ Is325 Fs325 (by omega) (by omega))
                · exact h_vret rfl rfl (kk _ Is306 Fs306 (by omega) (by omega))
            · refine h_aload_n (pc' := 8) rfl rfl rfl ?_
              refine h_iload_n (pc' := 9) rfl rfl rfl ?_
              refine h_put (pc' := 12) rfl rfl rfl rfl rfl rfl ci_5 rfl ?_
              have Is326 : h_I (h_up σ 98 13 5) := (if_98_13 hI (by omega))
              have Fs326 := (F00.up (q := 98) (a := 13) (v := 5) rfl)
              have es326_0 : h_up σ 98 13 5 98 15 = σ 98 15 := rfl
              have es326_1 : h_up σ 98 13 5 98 16 = σ 98 16 := rfl
              have es326_2 : h_up σ 98 13 5 98 17 = σ 98 17 := rfl
              have es326_3 : h_up σ 98 13 5 98 18 = σ 98 18 := rfl
              have es326_4 : h_up σ 98 13 5 98 13 = 5 := rfl
              have es326_5 : h_up σ 98 13 5 98 5 = σ 98 5 := rfl
              have es326_6 : h_up σ 98 13 5 98 6 = σ 98 6 := rfl
              have es326_7 : h_up σ 98 13 5 101 18 = σ 101 18 := rfl
              have es326_8 : h_up σ 98 13 5 101 25 = σ 101 25 := rfl
              generalize h_up σ 98 13 5 = s326 at Is326 Fs326 es326_0 es326_1 es326_2 es326_3 es326_4 es326_5 es326_6 es326_7 es326_8 ⊢
              refine h_aload_n (pc' := 13) rfl rfl rfl ?_
              refine h_aload_n (pc' := 14) rfl rfl rfl ?_
              refine h_getI (pc' := 17) (v := s326 98 16) rfl rfl rfl rfl rfl rfl (fun z327 hz327 => ?_)
              have tz327 := tf_98_16 Is326
              refine h_put (pc' := 20) rfl rfl rfl rfl rfl rfl hz327 rfl ?_
              have Is328 : h_I (h_up s326 98 14 (s326 98 16)) := (if_98_14 Is326 (h_rgv hz327))
              have Fs328 := (Fs326.up (q := 98) (a := 14) (v := (s326 98 16)) rfl)
              have es328_0 : h_up s326 98 14 (s326 98 16) 98 15 = s326 98 15 := rfl
              have es328_1 : h_up s326 98 14 (s326 98 16) 98 16 = s326 98 16 := rfl
              have es328_2 : h_up s326 98 14 (s326 98 16) 98 17 = s326 98 17 := rfl
              have es328_3 : h_up s326 98 14 (s326 98 16) 98 18 = s326 98 18 := rfl
              have es328_4 : h_up s326 98 14 (s326 98 16) 98 13 = s326 98 13 := rfl
              have es328_5 : h_up s326 98 14 (s326 98 16) 98 5 = s326 98 5 := rfl
              have es328_6 : h_up s326 98 14 (s326 98 16) 98 6 = s326 98 6 := rfl
              have es328_7 : h_up s326 98 14 (s326 98 16) 101 18 = s326 101 18 := rfl
              have es328_8 : h_up s326 98 14 (s326 98 16) 101 25 = s326 101 25 := rfl
              generalize h_up s326 98 14 (s326 98 16) = s328 at Is328 Fs328 es328_0 es328_1 es328_2 es328_3 es328_4 es328_5 es328_6 es328_7 es328_8 ⊢
              refine h_vret rfl rfl (h_Kn ?_)
              refine h_iload_n (pc' := 89) rfl rfl rfl ?_
              refine h_bipush (pc' := 91) (x := (Int32.ofInt 7)) rfl rfl cb_7 ?_
              refine h_cne (tg := 106) (pc' := 94) rfl rfl rfl hr1 ci_7 (fun c329 => ?_) (fun c329 => absurd c329 (by omega))
              refine h_aload_n (pc' := 107) rfl rfl rfl ?_
              refine h_aload_n (pc' := 108) rfl rfl rfl ?_
              refine h_getI (pc' := 111) (v := s328 98 7) rfl rfl rfl rfl rfl rfl (fun z330 hz330 => ?_)
              have tz330 := tf_98_7 Is328
              refine h_zne (tg := 120) (pc' := 114) rfl rfl rfl hz330 (fun c331 => ?_) (fun c331 => ?_)
              · refine h_iconst (pc' := 121) (x := (Int32.ofInt 1)) rfl rfl rfl ?_
                refine h_goto (pc' := 125) rfl rfl ?_
                refine h_put (pc' := 128) rfl rfl rfl rfl rfl rfl ci_1 (h_fb ci_1 (by omega)) ?_
                have Is332 : h_I (h_up s328 98 7 1) := (if_98_7 Is328 (by omega))
                have Fs332 := (Fs328.up (q := 98) (a := 7) (v := 1) rfl)
                have es332_0 : h_up s328 98 7 1 98 15 = s328 98 15 := rfl
                have es332_1 : h_up s328 98 7 1 98 16 = s328 98 16 := rfl
                have es332_2 : h_up s328 98 7 1 98 17 = s328 98 17 := rfl
                have es332_3 : h_up s328 98 7 1 98 18 = s328 98 18 := rfl
                have es332_4 : h_up s328 98 7 1 98 13 = s328 98 13 := rfl
                have es332_5 : h_up s328 98 7 1 98 5 = s328 98 5 := rfl
                have es332_6 : h_up s328 98 7 1 98 6 = s328 98 6 := rfl
                have es332_7 : h_up s328 98 7 1 101 18 = s328 101 18 := rfl
                have es332_8 : h_up s328 98 7 1 101 25 = s328 101 25 := rfl
                generalize h_up s328 98 7 1 = s332 at Is332 Fs332 es332_0 es332_1 es332_2 es332_3 es332_4 es332_5 es332_6 es332_7 es332_8 ⊢
                refine h_aload_n (pc' := 129) rfl rfl rfl ?_
                refine h_call (sp := false) (pc' := 132) (M := [(0, .ref 98)]) rfl rfl rfl rfl rfl rfl rfl rfl ?_
                refine v_step _ Is332  (fun s334 Is334 Gs334 ps334_0 ps334_1 ps334_2 => h_Kn ?_)
                have Fs334 := (Gs334.l1).tr Fs332
                have es334_5 : s334 98 5 = s332 98 5 := Gs334 98 5 rfl
                have es334_6 : s334 98 6 = s332 98 6 := Gs334 98 6 rfl
                have es334_7 : s334 101 18 = s332 101 18 := Gs334 101 18 rfl
                have es334_8 : s334 101 25 = s332 101 25 := Gs334 101 25 rfl
                refine h_aload_n (pc' := 133) rfl rfl rfl ?_
                refine h_getI (pc' := 136) (v := s334 98 13) rfl rfl rfl rfl rfl rfl (fun z335 hz335 => ?_)
                have tz335 := tf_98_13 Is334
                refine h_zle (tg := 140) (pc' := 139) rfl rfl rfl hz335 (fun c336 => ?_) (fun c336 => ?_)
                · refine h_aload_n (pc' := 141) rfl rfl rfl ?_
                  refine h_iload_n (pc' := 142) rfl rfl rfl ?_
                  refine h_call (sp := false) (pc' := 145) (M := [(0, .ref 98), (1, .int r1)]) rfl rfl rfl rfl rfl rfl rfl rfl ?_
                  refine v_readMore _ Is334 r1 _ hr1 (by omega) (by omega) (by omega) (by omega) (by omega) (fun s338 Is338 Gs338 ps338_0 ps338_1 => h_Kn ?_)
                  have Fs338 := (Gs338).tr Fs334
                  refine h_aload_n (pc' := 146) rfl rfl rfl ?_
                  refine h_getI (pc' := 149) (v := s338 98 13) rfl rfl rfl rfl rfl rfl (fun z339 hz339 => ?_)
                  have tz339 := tf_98_13 Is338
                  refine h_zne (tg := 165) (pc' := 152) rfl rfl rfl hz339 (fun c340 => ?_) (fun c340 => ?_)
                  · refine h_aload_n (pc' := 166) rfl rfl rfl ?_
                    refine h_call (sp := false) (pc' := 169) (M := [(0, .ref 98)]) rfl rfl rfl rfl rfl rfl rfl rfl ?_
                    refine v_step _ Is338  (fun s342 Is342 Gs342 ps342_0 ps342_1 ps342_2 => h_Kn ?_)
                    have Fs342 := (Gs342.l1).tr Fs338
                    have es342_5 : s342 98 5 = s338 98 5 := Gs342 98 5 rfl
                    have es342_6 : s342 98 6 = s338 98 6 := Gs342 98 6 rfl
                    have es342_7 : s342 101 18 = s338 101 18 := Gs342 101 18 rfl
                    have es342_8 : s342 101 25 = s338 101 25 := Gs342 101 25 rfl
                    exact h_vret rfl rfl (kk _ Is342 Fs342 (by omega) (by omega))
                  · refine h_aload_n (pc' := 153) rfl rfl rfl ?_
                    refine h_getI (pc' := 156) (v := s338 98 17) rfl rfl rfl rfl rfl rfl (fun z343 hz343 => ?_)
                    have tz343 := tf_98_17 Is338
                    refine h_iconst (pc' := 157) (x := (Int32.ofInt 3)) rfl rfl rfl ?_
                    refine h_ceq (tg := 165) (pc' := 160) rfl rfl rfl hz343 ci_3 (fun c344 => ?_) (fun c344 => ?_)
                    · refine h_aload_n (pc' := 166) rfl rfl rfl ?_
                      refine h_call (sp := false) (pc' := 169) (M := [(0, .ref 98)]) rfl rfl rfl rfl rfl rfl rfl rfl ?_
                      refine v_step _ Is338  (fun s346 Is346 Gs346 ps346_0 ps346_1 ps346_2 => h_Kn ?_)
                      have Fs346 := (Gs346.l1).tr Fs338
                      have es346_5 : s346 98 5 = s338 98 5 := Gs346 98 5 rfl
                      have es346_6 : s346 98 6 = s338 98 6 := Gs346 98 6 rfl
                      have es346_7 : s346 101 18 = s338 101 18 := Gs346 101 18 rfl
                      have es346_8 : s346 101 25 = s338 101 25 := Gs346 101 25 rfl
                      exact h_vret rfl rfl (kk _ Is346 Fs346 (by omega) (by omega))
                    · refine h_aload_n (pc' := 161) rfl rfl rfl ?_
                      refine h_iconst (pc' := 162) (x := (Int32.ofInt 2)) rfl rfl rfl ?_
                      refine h_call (sp := false) (pc' := 165) (M := [(0, .ref 98), (1, .int (Int32.ofInt 2))]) rfl rfl rfl rfl rfl rfl rfl rfl ?_
                      refine h_aload_n (pc' := 1) rfl rfl rfl ?_
                      refine h_getI (pc' := 4) (v := s338 98 13) rfl rfl rfl rfl rfl rfl (fun z347 hz347 => ?_)
                      have tz347 := tf_98_13 Is338
                      refine h_zne (tg := 20) (pc' := 7) rfl rfl rfl hz347 (fun c348 => absurd c348 (by omega)) (fun c348 => ?_)
                      refine h_aload_n (pc' := 8) rfl rfl rfl ?_
                      refine h_iload_n (pc' := 9) rfl rfl rfl ?_
                      refine h_put (pc' := 12) rfl rfl rfl rfl rfl rfl ci_2 rfl ?_
                      have Is349 : h_I (h_up s338 98 13 2) := (if_98_13 Is338 (by omega))
                      have Fs349 := (Fs338.up (q := 98) (a := 13) (v := 2) rfl)
                      have es349_0 : h_up s338 98 13 2 98 15 = s338 98 15 := rfl
                      have es349_1 : h_up s338 98 13 2 98 16 = s338 98 16 := rfl
                      have es349_2 : h_up s338 98 13 2 98 17 = s338 98 17 := rfl
                      have es349_3 : h_up s338 98 13 2 98 18 = s338 98 18 := rfl
                      have es349_4 : h_up s338 98 13 2 98 13 = 2 := rfl
                      have es349_5 : h_up s338 98 13 2 98 5 = s338 98 5 := rfl
                      have es349_6 : h_up s338 98 13 2 98 6 = s338 98 6 := rfl
                      have es349_7 : h_up s338 98 13 2 101 18 = s338 101 18 := rfl
                      have es349_8 : h_up s338 98 13 2 101 25 = s338 101 25 := rfl
                      generalize h_up s338 98 13 2 = s349 at Is349 Fs349 es349_0 es349_1 es349_2 es349_3 es349_4 es349_5 es349_6 es349_7 es349_8 ⊢
                      refine h_aload_n (pc' := 13) rfl rfl rfl ?_
                      refine h_aload_n (pc' := 14) rfl rfl rfl ?_
                      refine h_getI (pc' := 17) (v := s349 98 16) rfl rfl rfl rfl rfl rfl (fun z350 hz350 => ?_)
                      have tz350 := tf_98_16 Is349
                      refine h_put (pc' := 20) rfl rfl rfl rfl rfl rfl hz350 rfl ?_
                      have Is351 : h_I (h_up s349 98 14 (s349 98 16)) := (if_98_14 Is349 (h_rgv hz350))
                      have Fs351 := (Fs349.up (q := 98) (a := 14) (v := (s349 98 16)) rfl)
                      have es351_0 : h_up s349 98 14 (s349 98 16) 98 15 = s349 98 15 := rfl
                      have es351_1 : h_up s349 98 14 (s349 98 16) 98 16 = s349 98 16 := rfl
                      have es351_2 : h_up s349 98 14 (s349 98 16) 98 17 = s349 98 17 := rfl
                      have es351_3 : h_up s349 98 14 (s349 98 16) 98 18 = s349 98 18 := rfl
                      have es351_4 : h_up s349 98 14 (s349 98 16) 98 13 = s349 98 13 := rfl
                      have es351_5 : h_up s349 98 14 (s349 98 16) 98 5 = s349 98 5 := rfl
                      have es351_6 : h_up s349 98 14 (s349 98 16) 98 6 = s349 98 6 := rfl
                      have es351_7 : h_up s349 98 14 (s349 98 16) 101 18 = s349 101 18 := rfl
                      have es351_8 : h_up s349 98 14 (s349 98 16) 101 25 = s349 101 25 := rfl
                      generalize h_up s349 98 14 (s349 98 16) = s351 at Is351 Fs351 es351_0 es351_1 es351_2 es351_3 es351_4 es351_5 es351_6 es351_7 es351_8 ⊢
                      refine h_vret rfl rfl (h_Kn ?_)
                      refine h_aload_n (pc' := 166) rfl rfl rfl ?_
                      refine h_call (sp := false) (pc' := 169) (M := [(0, .ref 98)]) rfl rfl rfl rfl rfl rfl rfl rfl ?_
                      refine v_step _ Is351  (fun s353 Is353 Gs353 ps353_0 ps353_1 ps353_2 => h_Kn ?_)
                      have Fs353 := (Gs353.l1).tr Fs351
                      have es353_5 : s353 98 5 = s351 98 5 := Gs353 98 5 rfl
                      have es353_6 : s353 98 6 = s351 98 6 := Gs353 98 6 rfl
                      have es353_7 : s353 101 18 = s351 101 18 := Gs353 101 18 rfl
                      have es353_8 : s353 101 25 = s351 101 25 := Gs353 101 25 rfl
                      exact h_vret rfl rfl (kk _ Is353 Fs353 (by omega) (by omega))
                · exact h_vret rfl rfl (kk _ Is334 Fs334 (by omega) (by omega))
              · refine h_iload_n (pc' := 115) rfl rfl rfl ?_
                refine h_bipush (pc' := 117) (x := (Int32.ofInt 7)) rfl rfl cb_7 ?_
                refine h_cne (tg := 124) (pc' := 120) rfl rfl rfl hr1 ci_7 (fun c354 => ?_) (fun c354 => absurd c354 (by omega))
                refine h_iconst (pc' := 125) (x := (Int32.ofInt 0)) rfl rfl rfl ?_
                refine h_put (pc' := 128) rfl rfl rfl rfl rfl rfl ci_0 (h_fb ci_0 (by omega)) ?_
                have Is355 : h_I (h_up s328 98 7 0) := (if_98_7 Is328 (by omega))
                have Fs355 := (Fs328.up (q := 98) (a := 7) (v := 0) rfl)
                have es355_0 : h_up s328 98 7 0 98 15 = s328 98 15 := rfl
                have es355_1 : h_up s328 98 7 0 98 16 = s328 98 16 := rfl
                have es355_2 : h_up s328 98 7 0 98 17 = s328 98 17 := rfl
                have es355_3 : h_up s328 98 7 0 98 18 = s328 98 18 := rfl
                have es355_4 : h_up s328 98 7 0 98 13 = s328 98 13 := rfl
                have es355_5 : h_up s328 98 7 0 98 5 = s328 98 5 := rfl
                have es355_6 : h_up s328 98 7 0 98 6 = s328 98 6 := rfl
                have es355_7 : h_up s328 98 7 0 101 18 = s328 101 18 := rfl
                have es355_8 : h_up s328 98 7 0 101 25 = s328 101 25 := rfl
                generalize h_up s328 98 7 0 = s355 at Is355 Fs355 es355_0 es355_1 es355_2 es355_3 es355_4 es355_5 es355_6 es355_7 es355_8 ⊢
                refine h_aload_n (pc' := 129) rfl rfl rfl ?_
                refine h_call (sp := false) (pc' := 132) (M := [(0, .ref 98)]) rfl rfl rfl rfl rfl rfl rfl rfl ?_
                refine v_step _ Is355  (fun s357 Is357 Gs357 ps357_0 ps357_1 ps357_2 => h_Kn ?_)
                have Fs357 := (Gs357.l1).tr Fs355
                have es357_5 : s357 98 5 = s355 98 5 := Gs357 98 5 rfl
                have es357_6 : s357 98 6 = s355 98 6 := Gs357 98 6 rfl
                have es357_7 : s357 101 18 = s355 101 18 := Gs357 101 18 rfl
                have es357_8 : s357 101 25 = s355 101 25 := Gs357 101 25 rfl
                refine h_aload_n (pc' := 133) rfl rfl rfl ?_
                refine h_getI (pc' := 136) (v := s357 98 13) rfl rfl rfl rfl rfl rfl (fun z358 hz358 => ?_)
                have tz358 := tf_98_13 Is357
                refine h_zle (tg := 140) (pc' := 139) rfl rfl rfl hz358 (fun c359 => ?_) (fun c359 => ?_)
                · refine h_aload_n (pc' := 141) rfl rfl rfl ?_
                  refine h_iload_n (pc' := 142) rfl rfl rfl ?_
                  refine h_call (sp := false) (pc' := 145) (M := [(0, .ref 98), (1, .int r1)]) rfl rfl rfl rfl rfl rfl rfl rfl ?_
                  refine v_readMore _ Is357 r1 _ hr1 (by omega) (by omega) (by omega) (by omega) (by omega) (fun s361 Is361 Gs361 ps361_0 ps361_1 => h_Kn ?_)
                  have Fs361 := (Gs361).tr Fs357
                  refine h_aload_n (pc' := 146) rfl rfl rfl ?_
                  refine h_getI (pc' := 149) (v := s361 98 13) rfl rfl rfl rfl rfl rfl (fun z362 hz362 => ?_)
                  have tz362 := tf_98_13 Is361
                  refine h_zne (tg := 165) (pc' := 152) rfl rfl rfl hz362 (fun c363 => ?_) (fun c363 => ?_)
                  · refine h_aload_n (pc' := 166) rfl rfl rfl ?_
                    refine h_call (sp := false) (pc' := 169) (M := [(0, .ref 98)]) rfl rfl rfl rfl rfl rfl rfl rfl ?_
                    refine v_step _ Is361  (fun s365 Is365 Gs365 ps365_0 ps365_1 ps365_2 => h_Kn ?_)
                    have Fs365 := (Gs365.l1).tr Fs361
                    have es365_5 : s365 98 5 = s361 98 5 := Gs365 98 5 rfl
                    have es365_6 : s365 98 6 = s361 98 6 := Gs365 98 6 rfl
                    have es365_7 : s365 101 18 = s361 101 18 := Gs365 101 18 rfl
                    have es365_8 : s365 101 25 = s361 101 25 := Gs365 101 25 rfl
                    exact h_vret rfl rfl (kk _ Is365 Fs365 (by omega) (by omega))
                  · refine h_aload_n (pc' := 153) rfl rfl rfl ?_
                    refine h_getI (pc' := 156) (v := s361 98 17) rfl rfl rfl rfl rfl rfl (fun z366 hz366 => ?_)
                    have tz366 := tf_98_17 Is361
                    refine h_iconst (pc' := 157) (x := (Int32.ofInt 3)) rfl rfl rfl ?_
                    refine h_ceq (tg := 165) (pc' := 160) rfl rfl rfl hz366 ci_3 (fun c367 => ?_) (fun c367 => ?_)
                    · refine h_aload_n (pc' := 166) rfl rfl rfl ?_
                      refine h_call (sp := false) (pc' := 169) (M := [(0, .ref 98)]) rfl rfl rfl rfl rfl rfl rfl rfl ?_
                      refine v_step _ Is361  (fun s369 Is369 Gs369 ps369_0 ps369_1 ps369_2 => h_Kn ?_)
                      have Fs369 := (Gs369.l1).tr Fs361
                      have es369_5 : s369 98 5 = s361 98 5 := Gs369 98 5 rfl
                      have es369_6 : s369 98 6 = s361 98 6 := Gs369 98 6 rfl
                      have es369_7 : s369 101 18 = s361 101 18 := Gs369 101 18 rfl
                      have es369_8 : s369 101 25 = s361 101 25 := Gs369 101 25 rfl
                      exact h_vret rfl rfl (kk _ Is369 Fs369 (by omega) (by omega))
                    · refine h_aload_n (pc' := 161) rfl rfl rfl ?_
                      refine h_iconst (pc' := 162) (x := (Int32.ofInt 2)) rfl rfl rfl ?_
                      refine h_call (sp := false) (pc' := 165) (M := [(0, .ref 98), (1, .int (Int32.ofInt 2))]) rfl rfl rfl rfl rfl rfl rfl rfl ?_
                      refine h_aload_n (pc' := 1) rfl rfl rfl ?_
                      refine h_getI (pc' := 4) (v := s361 98 13) rfl rfl rfl rfl rfl rfl (fun z370 hz370 => ?_)
                      have tz370 := tf_98_13 Is361
                      refine h_zne (tg := 20) (pc' := 7) rfl rfl rfl hz370 (fun c371 => absurd c371 (by omega)) (fun c371 => ?_)
                      refine h_aload_n (pc' := 8) rfl rfl rfl ?_
                      refine h_iload_n (pc' := 9) rfl rfl rfl ?_
                      refine h_put (pc' := 12) rfl rfl rfl rfl rfl rfl ci_2 rfl ?_
                      have Is372 : h_I (h_up s361 98 13 2) := (if_98_13 Is361 (by omega))
                      have Fs372 := (Fs361.up (q := 98) (a := 13) (v := 2) rfl)
                      have es372_0 : h_up s361 98 13 2 98 15 = s361 98 15 := rfl
                      have es372_1 : h_up s361 98 13 2 98 16 = s361 98 16 := rfl
                      have es372_2 : h_up s361 98 13 2 98 17 = s361 98 17 := rfl
                      have es372_3 : h_up s361 98 13 2 98 18 = s361 98 18 := rfl
                      have es372_4 : h_up s361 98 13 2 98 13 = 2 := rfl
                      have es372_5 : h_up s361 98 13 2 98 5 = s361 98 5 := rfl
                      have es372_6 : h_up s361 98 13 2 98 6 = s361 98 6 := rfl
                      have es372_7 : h_up s361 98 13 2 101 18 = s361 101 18 := rfl
                      have es372_8 : h_up s361 98 13 2 101 25 = s361 101 25 := rfl
                      generalize h_up s361 98 13 2 = s372 at Is372 Fs372 es372_0 es372_1 es372_2 es372_3 es372_4 es372_5 es372_6 es372_7 es372_8 ⊢
                      refine h_aload_n (pc' := 13) rfl rfl rfl ?_
                      refine h_aload_n (pc' := 14) rfl rfl rfl ?_
                      refine h_getI (pc' := 17) (v := s372 98 16) rfl rfl rfl rfl rfl rfl (fun z373 hz373 => ?_)
                      have tz373 := tf_98_16 Is372
                      refine h_put (pc' := 20) rfl rfl rfl rfl rfl rfl hz373 rfl ?_
                      have Is374 : h_I (h_up s372 98 14 (s372 98 16)) := (if_98_14 Is372 (h_rgv hz373))
                      have Fs374 := (Fs372.up (q := 98) (a := 14) (v := (s372 98 16)) rfl)
                      have es374_0 : h_up s372 98 14 (s372 98 16) 98 15 = s372 98 15 := rfl
                      have es374_1 : h_up s372 98 14 (s372 98 16) 98 16 = s372 98 16 := rfl
                      have es374_2 : h_up s372 98 14 (s372 98 16) 98 17 = s372 98 17 := rfl
                      have es374_3 : h_up s372 98 14 (s372 98 16) 98 18 = s372 98 18 := rfl
                      have es374_4 : h_up s372 98 14 (s372 98 16) 98 13 = s372 98 13 := rfl
                      have es374_5 : h_up s372 98 14 (s372 98 16) 98 5 = s372 98 5 := rfl
                      have es374_6 : h_up s372 98 14 (s372 98 16) 98 6 = s372 98 6 := rfl
                      have es374_7 : h_up s372 98 14 (s372 98 16) 101 18 = s372 101 18 := rfl
                      have es374_8 : h_up s372 98 14 (s372 98 16) 101 25 = s372 101 25 := rfl
                      generalize h_up s372 98 14 (s372 98 16) = s374 at Is374 Fs374 es374_0 es374_1 es374_2 es374_3 es374_4 es374_5 es374_6 es374_7 es374_8 ⊢
                      refine h_vret rfl rfl (h_Kn ?_)
                      refine h_aload_n (pc' := 166) rfl rfl rfl ?_
                      refine h_call (sp := false) (pc' := 169) (M := [(0, .ref 98)]) rfl rfl rfl rfl rfl rfl rfl rfl ?_
                      refine v_step _ Is374  (fun s376 Is376 Gs376 ps376_0 ps376_1 ps376_2 => h_Kn ?_)
                      have Fs376 := (Gs376.l1).tr Fs374
                      have es376_5 : s376 98 5 = s374 98 5 := Gs376 98 5 rfl
                      have es376_6 : s376 98 6 = s374 98 6 := Gs376 98 6 rfl
                      have es376_7 : s376 101 18 = s374 101 18 := Gs376 101 18 rfl
                      have es376_8 : s376 101 25 = s374 101 25 := Gs376 101 25 rfl
                      exact h_vret rfl rfl (kk _ Is376 Fs376 (by omega) (by omega))
                · exact h_vret rfl rfl (kk _ Is357 Fs357 (by omega) (by omega))
          · refine h_iload_n (pc' := 70) rfl rfl rfl ?_
            refine h_bipush (pc' := 72) (x := (Int32.ofInt 6)) rfl rfl cb_6 ?_
            refine h_cne (tg := 88) (pc' := 75) rfl rfl rfl hr1 ci_6 (fun c377 => ?_) (fun c377 => absurd c377 (by omega))
            refine h_iload_n (pc' := 89) rfl rfl rfl ?_
            refine h_bipush (pc' := 91) (x := (Int32.ofInt 7)) rfl rfl cb_7 ?_
            refine h_cne (tg := 106) (pc' := 94) rfl rfl rfl hr1 ci_7 (fun c378 => ?_) (fun c378 => absurd c378 (by omega))
            refine h_aload_n (pc' := 107) rfl rfl rfl ?_
            refine h_aload_n (pc' := 108) rfl rfl rfl ?_
            refine h_getI (pc' := 111) (v := σ 98 7) rfl rfl rfl rfl rfl rfl (fun z379 hz379 => ?_)
            have tz379 := tf_98_7 hI
            refine h_zne (tg := 120) (pc' := 114) rfl rfl rfl hz379 (fun c380 => ?_) (fun c380 => ?_)
            · refine h_iconst (pc' := 121) (x := (Int32.ofInt 1)) rfl rfl rfl ?_
              refine h_goto (pc' := 125) rfl rfl ?_
              refine h_put (pc' := 128) rfl rfl rfl rfl rfl rfl ci_1 (h_fb ci_1 (by omega)) ?_
              have Is381 : h_I (h_up σ 98 7 1) := (if_98_7 hI (by omega))
              have Fs381 := (F00.up (q := 98) (a := 7) (v := 1) rfl)
              have es381_0 : h_up σ 98 7 1 98 15 = σ 98 15 := rfl
              have es381_1 : h_up σ 98 7 1 98 16 = σ 98 16 := rfl
              have es381_2 : h_up σ 98 7 1 98 17 = σ 98 17 := rfl
              have es381_3 : h_up σ 98 7 1 98 18 = σ 98 18 := rfl
              have es381_4 : h_up σ 98 7 1 98 13 = σ 98 13 := rfl
              have es381_5 : h_up σ 98 7 1 98 5 = σ 98 5 := rfl
              have es381_6 : h_up σ 98 7 1 98 6 = σ 98 6 := rfl
              have es381_7 : h_up σ 98 7 1 101 18 = σ 101 18 := rfl
              have es381_8 : h_up σ 98 7 1 101 25 = σ 101 25 := rfl
              generalize h_up σ 98 7 1 = s381 at Is381 Fs381 es381_0 es381_1 es381_2 es381_3 es381_4 es381_5 es381_6 es381_7 es381_8 ⊢
              refine h_aload_n (pc' := 129) rfl rfl rfl ?_
              refine h_call (sp := false) (pc' := 132) (M := [(0, .ref 98)]) rfl rfl rfl rfl rfl rfl rfl rfl ?_
              refine v_step _ Is381  (fun s383 Is383 Gs383 ps383_0 ps383_1 ps383_2 => h_Kn ?_)
              have Fs383 := (Gs383.l1).tr Fs381
              have es383_5 : s383 98 5 = s381 98 5 := Gs383 98 5 rfl
              have es383_6 : s383 98 6 = s381 98 6 := Gs383 98 6 rfl
              have es383_7 : s383 101 18 = s381 101 18 := Gs383 101 18 rfl
              have es383_8 : s383 101 25 = s381 101 25 := Gs383 101 25 rfl
              refine h_aload_n (pc' := 133) rfl rfl rfl ?_
              refine h_getI (pc' := 136) (v := s383 98 13) rfl rfl rfl rfl rfl rfl (fun z384 hz384 => ?_)
              have tz384 := tf_98_13 Is383
              refine h_zle (tg := 140) (pc' := 139) rfl rfl rfl hz384 (fun c385 => ?_) (fun c385 => ?_)
              · refine h_aload_n (pc' := 141) rfl rfl rfl ?_
                refine h_iload_n (pc' := 142) rfl rfl rfl ?_
                refine h_call (sp := false) (pc' := 145) (M := [(0, .ref 98), (1, .int r1)]) rfl rfl rfl rfl rfl rfl rfl rfl ?_
                refine v_readMore _ Is383 r1 _ hr1 (by omega) (by omega) (by omega) (by omega) (by omega) (fun s387 Is387 Gs387 ps387_0 ps387_1 => h_Kn ?_)
                have Fs387 := (Gs387).tr Fs383
                refine h_aload_n (pc' := 146) rfl rfl rfl ?_
                refine h_getI (pc' := 149) (v := s387 98 13) rfl rfl rfl rfl rfl rfl (fun z388 hz388 => ?_)
                have tz388 := tf_98_13 Is387
                refine h_zne (tg := 165) (pc' := 152) rfl rfl rfl hz388 (fun c389 => ?_) (fun c389 => ?_)
                · refine h_aload_n (pc' := 166) rfl rfl rfl ?_
                  refine h_call (sp := false) (pc' := 169) (M := [(0, .ref 98)]) rfl rfl rfl rfl rfl rfl rfl rfl ?_
                  refine v_step _ Is387  (fun s391 Is391 Gs391 ps391_0 ps391_1 ps391_2 => h_Kn ?_)
                  have Fs391 := (Gs391.l1).tr Fs387
                  have es391_5 : s391 98 5 = s387 98 5 := Gs391 98 5 rfl
                  have es391_6 : s391 98 6 = s387 98 6 := Gs391 98 6 rfl
                  have es391_7 : s391 101 18 = s387 101 18 := Gs391 101 18 rfl
                  have es391_8 : s391 101 25 = s387 101 25 := Gs391 101 25 rfl
                  exact h_vret rfl rfl (kk _ Is391 Fs391 (by omega) (by omega))
                · refine h_aload_n (pc' := 153) rfl rfl rfl ?_
                  refine h_getI (pc' := 156) (v := s387 98 17) rfl rfl rfl rfl rfl rfl (fun z392 hz392 => ?_)
                  have tz392 := tf_98_17 Is387
                  refine h_iconst (pc' := 157) (x := (Int32.ofInt 3)) rfl rfl rfl ?_
                  refine h_ceq (tg := 165) (pc' := 160) rfl rfl rfl hz392 ci_3 (fun c393 => ?_) (fun c393 => ?_)
                  · refine h_aload_n (pc' := 166) rfl rfl rfl ?_
                    refine h_call (sp := false) (pc' := 169) (M := [(0, .ref 98)]) rfl rfl rfl rfl rfl rfl rfl rfl ?_
                    refine v_step _ Is387  (fun s395 Is395 Gs395 ps395_0 ps395_1 ps395_2 => h_Kn ?_)
                    have Fs395 := (Gs395.l1).tr Fs387
                    have es395_5 : s395 98 5 = s387 98 5 := Gs395 98 5 rfl
                    have es395_6 : s395 98 6 = s387 98 6 := Gs395 98 6 rfl
                    have es395_7 : s395 101 18 = s387 101 18 := Gs395 101 18 rfl
                    have es395_8 : s395 101 25 = s387 101 25 := Gs395 101 25 rfl
                    exact h_vret rfl rfl (kk _ Is395 Fs395 (by omega) (by omega))
                  · refine h_aload_n (pc' := 161) rfl rfl rfl ?_
                    refine h_iconst (pc' := 162) (x := (Int32.ofInt 2)) rfl rfl rfl ?_
                    refine h_call (sp := false) (pc' := 165) (M := [(0, .ref 98), (1, .int (Int32.ofInt 2))]) rfl rfl rfl rfl rfl rfl rfl rfl ?_
                    refine h_aload_n (pc' := 1) rfl rfl rfl ?_
                    refine h_getI (pc' := 4) (v := s387 98 13) rfl rfl rfl rfl rfl rfl (fun z396 hz396 => ?_)
                    have tz396 := tf_98_13 Is387
                    refine h_zne (tg := 20) (pc' := 7) rfl rfl rfl hz396 (fun c397 => absurd c397 (by omega)) (fun c397 => ?_)
                    refine h_aload_n (pc' := 8) rfl rfl rfl ?_
                    refine h_iload_n (pc' := 9) rfl rfl rfl ?_
                    refine h_put (pc' := 12) rfl rfl rfl rfl rfl rfl ci_2 rfl ?_
                    have Is398 : h_I (h_up s387 98 13 2) := (if_98_13 Is387 (by omega))
                    have Fs398 := (Fs387.up (q := 98) (a := 13) (v := 2) rfl)
                    have es398_0 : h_up s387 98 13 2 98 15 = s387 98 15 := rfl
                    have es398_1 : h_up s387 98 13 2 98 16 = s387 98 16 := rfl
                    have es398_2 : h_up s387 98 13 2 98 17 = s387 98 17 := rfl
                    have es398_3 : h_up s387 98 13 2 98 18 = s387 98 18 := rfl
                    have es398_4 : h_up s387 98 13 2 98 13 = 2 := rfl
                    have es398_5 : h_up s387 98 13 2 98 5 = s387 98 5 := rfl
                    have es398_6 : h_up s387 98 13 2 98 6 = s387 98 6 := rfl
                    have es398_7 : h_up s387 98 13 2 101 18 = s387 101 18 := rfl
                    have es398_8 : h_up s387 98 13 2 101 25 = s387 101 25 := rfl
                    generalize h_up s387 98 13 2 = s398 at Is398 Fs398 es398_0 es398_1 es398_2 es398_3 es398_4 es398_5 es398_6 es398_7 es398_8 ⊢
                    refine h_aload_n (pc' := 13) rfl rfl rfl ?_
                    refine h_aload_n (pc' := 14) rfl rfl rfl ?_
                    refine h_getI (pc' := 17) (v := s398 98 16) rfl rfl rfl rfl rfl rfl (fun z399 hz399 => ?_)
                    have tz399 := tf_98_16 Is398
                    refine h_put (pc' := 20) rfl rfl rfl rfl rfl rfl hz399 rfl ?_
                    have Is400 : h_I (h_up s398 98 14 (s398 98 16)) := (if_98_14 Is398 (h_rgv hz399))
                    have Fs400 := (Fs398.up (q := 98) (a := 14) (v := (s398 98 16)) rfl)
                    have es400_0 : h_up s398 98 14 (s398 98 16) 98 15 = s398 98 15 := rfl
                    have es400_1 : h_up s398 98 14 (s398 98 16) 98 16 = s398 98 16 := rfl
                    have es400_2 : h_up s398 98 14 (s398 98 16) 98 17 = s398 98 17 := rfl
                    have es400_3 : h_up s398 98 14 (s398 98 16) 98 18 = s398 98 18 := rfl
                    have es400_4 : h_up s398 98 14 (s398 98 16) 98 13 = s398 98 13 := rfl
                    have es400_5 : h_up s398 98 14 (s398 98 16) 98 5 = s398 98 5 := rfl
                    have es400_6 : h_up s398 98 14 (s398 98 16) 98 6 = s398 98 6 := rfl
                    have es400_7 : h_up s398 98 14 (s398 98 16) 101 18 = s398 101 18 := rfl
                    have es400_8 : h_up s398 98 14 (s398 98 16) 101 25 = s398 101 25 := rfl
                    generalize h_up s398 98 14 (s398 98 16) = s400 at Is400 Fs400 es400_0 es400_1 es400_2 es400_3 es400_4 es400_5 es400_6 es400_7 es400_8 ⊢
                    refine h_vret rfl rfl (h_Kn ?_)
                    refine h_aload_n (pc' := 166) rfl rfl rfl ?_
                    refine h_call (sp := false) (pc' := 169) (M := [(0, .ref 98)]) rfl rfl rfl rfl rfl rfl rfl rfl ?_
                    refine v_step _ Is400  (fun s402 Is402 Gs402 ps402_0 ps402_1 ps402_2 => h_Kn ?_)
                    have Fs402 := (Gs402.l1).tr Fs400
                    have es402_5 : s402 98 5 = s400 98 5 := Gs402 98 5 rfl
                    have es402_6 : s402 98 6 = s400 98 6 := Gs402 98 6 rfl
                    have es402_7 : s402 101 18 = s400 101 18 := Gs402 101 18 rfl
                    have es402_8 : s402 101 25 = s400 101 25 := Gs402 101 25 rfl
                    exact h_vret rfl rfl (kk _ Is402 Fs402 (by omega) (by omega))
              · exact h_vret rfl rfl (kk _ Is383 Fs383 (by omega) (by omega))
            · refine h_iload_n (pc' := 115) rfl rfl rfl ?_
              refine h_bipush (pc' := 117) (x := (Int32.ofInt 7)) rfl rfl cb_7 ?_
              refine h_cne (tg := 124) (pc' := 120) rfl rfl rfl hr1 ci_7 (fun c403 => ?_) (fun c403 => absurd c403 (by omega))
              refine h_iconst (pc' := 125) (x := (Int32.ofInt 0)) rfl rfl rfl ?_
              refine h_put (pc' := 128) rfl rfl rfl rfl rfl rfl ci_0 (h_fb ci_0 (by omega)) ?_
              have Is404 : h_I (h_up σ 98 7 0) := (if_98_7 hI (by omega))
              have Fs404 := (F00.up (q := 98) (a := 7) (v := 0) rfl)
              have es404_0 : h_up σ 98 7 0 98 15 = σ 98 15 := rfl
              have es404_1 : h_up σ 98 7 0 98 16 = σ 98 16 := rfl
              have es404_2 : h_up σ 98 7 0 98 17 = σ 98 17 := rfl
              have es404_3 : h_up σ 98 7 0 98 18 = σ 98 18 := rfl
              have es404_4 : h_up σ 98 7 0 98 13 = σ 98 13 := rfl
              have es404_5 : h_up σ 98 7 0 98 5 = σ 98 5 := rfl
              have es404_6 : h_up σ 98 7 0 98 6 = σ 98 6 := rfl
              have es404_7 : h_up σ 98 7 0 101 18 = σ 101 18 := rfl
              have es404_8 : h_up σ 98 7 0 101 25 = σ 101 25 := rfl
              generalize h_up σ 98 7 0 = s404 at Is404 Fs404 es404_0 es404_1 es404_2 es404_3 es404_4 es404_5 es404_6 es404_7 es404_8 ⊢
              refine h_aload_n (pc' := 129) rfl rfl rfl ?_
              refine h_call (sp := false) (pc' := 132) (M := [(0, .ref 98)]) rfl rfl rfl rfl rfl rfl rfl rfl ?_
              refine v_step _ Is404  (fun s406 Is406 Gs406 ps406_0 ps406_1 ps406_2 => h_Kn ?_)
              have Fs406 := (Gs406.l1).tr Fs404
              have es406_5 : s406 98 5 = s404 98 5 := Gs406 98 5 rfl
              have es406_6 : s406 98 6 = s404 98 6 := Gs406 98 6 rfl
              have es406_7 : s406 101 18 = s404 101 18 := Gs406 101 18 rfl
              have es406_8 : s406 101 25 = s404 101 25 := Gs406 101 25 rfl
              refine h_aload_n (pc' := 133) rfl rfl rfl ?_
              refine h_getI (pc' := 136) (v := s406 98 13) rfl rfl rfl rfl rfl rfl (fun z407 hz407 => ?_)
              have tz407 := tf_98_13 Is406
              refine h_zle (tg := 140) (pc' := 139) rfl rfl rfl hz407 (fun c408 => ?_) (fun c408 => ?_)
              · refine h_aload_n (pc' := 141) rfl rfl rfl ?_
                refine h_iload_n (pc' := 142) rfl rfl rfl ?_
                refine h_call (sp := false) (pc' := 145) (M := [(0, .ref 98), (1, .int r1)]) rfl rfl rfl rfl rfl rfl rfl rfl ?_
                refine v_readMore _ Is406 r1 _ hr1 (by omega) (by omega) (by omega) (by omega) (by omega) (fun s410 Is410 Gs410 ps410_0 ps410_1 => h_Kn ?_)
                have Fs410 := (Gs410).tr Fs406
                refine h_aload_n (pc' := 146) rfl rfl rfl ?_
                refine h_getI (pc' := 149) (v := s410 98 13) rfl rfl rfl rfl rfl rfl (fun z411 hz411 => ?_)
                have tz411 := tf_98_13 Is410
                refine h_zne (tg := 165) (pc' := 152) rfl rfl rfl hz411 (fun c412 => ?_) (fun c412 => ?_)
                · refine h_aload_n (pc' := 166) rfl rfl rfl ?_
                  refine h_call (sp := false) (pc' := 169) (M := [(0, .ref 98)]) rfl rfl rfl rfl rfl rfl rfl rfl ?_
                  refine v_step _ Is410  (fun s414 Is414 Gs414 ps414_0 ps414_1 ps414_2 => h_Kn ?_)
                  have Fs414 := (Gs414.l1).tr Fs410
                  have es414_5 : s414 98 5 = s410 98 5 := Gs414 98 5 rfl
                  have es414_6 : s414 98 6 = s410 98 6 := Gs414 98 6 rfl
                  have es414_7 : s414 101 18 = s410 101 18 := Gs414 101 18 rfl
                  have es414_8 : s414 101 25 = s410 101 25 := Gs414 101 25 rfl
                  exact h_vret rfl rfl (kk _ Is414 Fs414 (by omega) (by omega))
                · refine h_aload_n (pc' := 153) rfl rfl rfl ?_
                  refine h_getI (pc' := 156) (v := s410 98 17) rfl rfl rfl rfl rfl rfl (fun z415 hz415 => ?_)
                  have tz415 := tf_98_17 Is410
                  refine h_iconst (pc' := 157) (x := (Int32.ofInt 3)) rfl rfl rfl ?_
                  refine h_ceq (tg := 165) (pc' := 160) rfl rfl rfl hz415 ci_3 (fun c416 => ?_) (fun c416 => ?_)
                  · refine h_aload_n (pc' := 166) rfl rfl rfl ?_
                    refine h_call (sp := false) (pc' := 169) (M := [(0, .ref 98)]) rfl rfl rfl rfl rfl rfl rfl rfl ?_
                    refine v_step _ Is410  (fun s418 Is418 Gs418 ps418_0 ps418_1 ps418_2 => h_Kn ?_)
                    have Fs418 := (Gs418.l1).tr Fs410
                    have es418_5 : s418 98 5 = s410 98 5 := Gs418 98 5 rfl
                    have es418_6 : s418 98 6 = s410 98 6 := Gs418 98 6 rfl
                    have es418_7 : s418 101 18 = s410 101 18 := Gs418 101 18 rfl
                    have es418_8 : s418 101 25 = s410 101 25 := Gs418 101 25 rfl
                    exact h_vret rfl rfl (kk _ Is418 Fs418 (by omega) (by omega))
                  · refine h_aload_n (pc' := 161) rfl rfl rfl ?_
                    refine h_iconst (pc' := 162) (x := (Int32.ofInt 2)) rfl rfl rfl ?_
                    refine h_call (sp := false) (pc' := 165) (M := [(0, .ref 98), (1, .int (Int32.ofInt 2))]) rfl rfl rfl rfl rfl rfl rfl rfl ?_
                    refine h_aload_n (pc' := 1) rfl rfl rfl ?_
                    refine h_getI (pc' := 4) (v := s410 98 13) rfl rfl rfl rfl rfl rfl (fun z419 hz419 => ?_)
                    have tz419 := tf_98_13 Is410
                    refine h_zne (tg := 20) (pc' := 7) rfl rfl rfl hz419 (fun c420 => absurd c420 (by omega)) (fun c420 => ?_)
                    refine h_aload_n (pc' := 8) rfl rfl rfl ?_
                    refine h_iload_n (pc' := 9) rfl rfl rfl ?_
                    refine h_put (pc' := 12) rfl rfl rfl rfl rfl rfl ci_2 rfl ?_
                    have Is421 : h_I (h_up s410 98 13 2) := (if_98_13 Is410 (by omega))
                    have Fs421 := (Fs410.up (q := 98) (a := 13) (v := 2) rfl)
                    have es421_0 : h_up s410 98 13 2 98 15 = s410 98 15 := rfl
                    have es421_1 : h_up s410 98 13 2 98 16 = s410 98 16 := rfl
                    have es421_2 : h_up s410 98 13 2 98 17 = s410 98 17 := rfl
                    have es421_3 : h_up s410 98 13 2 98 18 = s410 98 18 := rfl
                    have es421_4 : h_up s410 98 13 2 98 13 = 2 := rfl
                    have es421_5 : h_up s410 98 13 2 98 5 = s410 98 5 := rfl
                    have es421_6 : h_up s410 98 13 2 98 6 = s410 98 6 := rfl
                    have es421_7 : h_up s410 98 13 2 101 18 = s410 101 18 := rfl
                    have es421_8 : h_up s410 98 13 2 101 25 = s410 101 25 := rfl
                    generalize h_up s410 98 13 2 = s421 at Is421 Fs421 es421_0 es421_1 es421_2 es421_3 es421_4 es421_5 es421_6 es421_7 es421_8 ⊢
                    refine h_aload_n (pc' := 13) rfl rfl rfl ?_
                    refine h_aload_n (pc' := 14) rfl rfl rfl ?_
                    refine h_getI (pc' := 17) (v := s421 98 16) rfl rfl rfl rfl rfl rfl (fun z422 hz422 => ?_)
                    have tz422 := tf_98_16 Is421
                    refine h_put (pc' := 20) rfl rfl rfl rfl rfl rfl hz422 rfl ?_
                    have Is423 : h_I (h_up s421 98 14 (s421 98 16)) := (if_98_14 Is421 (h_rgv hz422))
                    have Fs423 := (Fs421.up (q := 98) (a := 14) (v := (s421 98 16)) rfl)
                    have es423_0 : h_up s421 98 14 (s421 98 16) 98 15 = s421 98 15 := rfl
                    have es423_1 : h_up s421 98 14 (s421 98 16) 98 16 = s421 98 16 := rfl
                    have es423_2 : h_up s421 98 14 (s421 98 16) 98 17 = s421 98 17 := rfl
                    have es423_3 : h_up s421 98 14 (s421 98 16) 98 18 = s421 98 18 := rfl
                    have es423_4 : h_up s421 98 14 (s421 98 16) 98 13 = s421 98 13 := rfl
                    have es423_5 : h_up s421 98 14 (s421 98 16) 98 5 = s421 98 5 := rfl
                    have es423_6 : h_up s421 98 14 (s421 98 16) 98 6 = s421 98 6 := rfl
                    have es423_7 : h_up s421 98 14 (s421 98 16) 101 18 = s421 101 18 := rfl
                    have es423_8 : h_up s421 98 14 (s421 98 16) 101 25 = s421 101 25 := rfl
                    generalize h_up s421 98 14 (s421 98 16) = s423 at Is423 Fs423 es423_0 es423_1 es423_2 es423_3 es423_4 es423_5 es423_6 es423_7 es423_8 ⊢
                    refine h_vret rfl rfl (h_Kn ?_)
                    refine h_aload_n (pc' := 166) rfl rfl rfl ?_
                    refine h_call (sp := false) (pc' := 169) (M := [(0, .ref 98)]) rfl rfl rfl rfl rfl rfl rfl rfl ?_
                    refine v_step _ Is423  (fun s425 Is425 Gs425 ps425_0 ps425_1 ps425_2 => h_Kn ?_)
                    have Fs425 := (Gs425.l1).tr Fs423
                    have es425_5 : s425 98 5 = s423 98 5 := Gs425 98 5 rfl
                    have es425_6 : s425 98 6 = s423 98 6 := Gs425 98 6 rfl
                    have es425_7 : s425 101 18 = s423 101 18 := Gs425 101 18 rfl
                    have es425_8 : s425 101 25 = s423 101 25 := Gs425 101 25 rfl
                    exact h_vret rfl rfl (kk _ Is425 Fs425 (by omega) (by omega))
              · exact h_vret rfl rfl (kk _ Is406 Fs406 (by omega) (by omega))
      · refine h_aload_n (pc' := 43) rfl rfl rfl ?_
        refine h_getR (pc' := 46) rfl rfl rfl rfl rfl ?_
        refine h_bipush (pc' := 48) (x := (Int32.ofInt 18)) rfl rfl cb_18 ?_
        refine h_iald (pc' := 49) (v := σ 101 18) rfl rfl rfl ci_18 (by omega) (by omega) rfl (fun z426 hz426 => ?_)
        have tz426 := ty_101_3 hI 18 (by omega)
        refine h_iconst (pc' := 50) (x := (Int32.ofInt 3)) rfl rfl rfl ?_
        refine h_ceq (tg := 83) (pc' := 53) rfl rfl rfl hz426 ci_3 (fun c427 => ?_) (fun c427 => ?_)
        · refine h_aload_n (pc' := 84) rfl rfl rfl ?_
          refine h_iconst (pc' := 85) (x := (Int32.ofInt 5)) rfl rfl rfl ?_
          refine h_call (sp := false) (pc' := 88) (M := [(0, .ref 98), (1, .int (Int32.ofInt 5))]) rfl rfl rfl rfl rfl rfl rfl rfl ?_
          refine h_aload_n (pc' := 1) rfl rfl rfl ?_
          refine h_getI (pc' := 4) (v := σ 98 13) rfl rfl rfl rfl rfl rfl (fun z428 hz428 => ?_)
          have tz428 := tf_98_13 hI
          refine h_zne (tg := 20) (pc' := 7) rfl rfl rfl hz428 (fun c429 => ?_) (fun c429 => ?_)
          · refine h_vret rfl rfl (h_Kn ?_)
            refine h_iload_n (pc' := 89) rfl rfl rfl ?_
            refine h_bipush (pc' := 91) (x := (Int32.ofInt 7)) rfl rfl cb_7 ?_
            refine h_cne (tg := 106) (pc' := 94) rfl rfl rfl hr1 ci_7 (fun c430 => ?_) (fun c430 => absurd c430 (by omega))
            refine h_aload_n (pc' := 107) rfl rfl rfl ?_
            refine h_aload_n (pc' := 108) rfl rfl rfl ?_
            refine h_getI (pc' := 111) (v := σ 98 7) rfl rfl rfl rfl rfl rfl (fun z431 hz431 => ?_)
            have tz431 := tf_98_7 hI
            refine h_zne (tg := 120) (pc' := 114) rfl rfl rfl hz431 (fun c432 => ?_) (fun c432 => ?_)
            · refine h_iconst (pc' := 121) (x := (Int32.ofInt 1)) rfl rfl rfl ?_
              refine h_goto (pc' := 125) rfl rfl ?_
              refine h_put (pc' := 128) rfl rfl rfl rfl rfl rfl ci_1 (h_fb ci_1 (by omega)) ?_
              have Is433 : h_I (h_up σ 98 7 1) := (if_98_7 hI (by omega))
              have Fs433 := (F00.up (q := 98) (a := 7) (v := 1) rfl)
              have es433_0 : h_up σ 98 7 1 98 15 = σ 98 15 := rfl
              have es433_1 : h_up σ 98 7 1 98 16 = σ 98 16 := rfl
              have es433_2 : h_up σ 98 7 1 98 17 = σ 98 17 := rfl
              have es433_3 : h_up σ 98 7 1 98 18 = σ 98 18 := rfl
              have es433_4 : h_up σ 98 7 1 98 13 = σ 98 13 := rfl
              have es433_5 : h_up σ 98 7 1 98 5 = σ 98 5 := rfl
              have es433_6 : h_up σ 98 7 1 98 6 = σ 98 6 := rfl
              have es433_7 : h_up σ 98 7 1 101 18 = σ 101 18 := rfl
              have es433_8 : h_up σ 98 7 1 101 25 = σ 101 25 := rfl
              generalize h_up σ 98 7 1 = s433 at Is433 Fs433 es433_0 es433_1 es433_2 es433_3 es433_4 es433_5 es433_6 es433_7 es433_8 ⊢
              refine h_aload_n (pc' := 129) rfl rfl rfl ?_
              refine h_call (sp := false) (pc' := 132) (M := [(0, .ref 98)]) rfl rfl rfl rfl rfl rfl rfl rfl ?_
              refine v_step _ Is433  (fun s435 Is435 Gs435 ps435_0 ps435_1 ps435_2 => h_Kn ?_)
              have Fs435 := (Gs435.l1).tr Fs433
              have es435_5 : s435 98 5 = s433 98 5 := Gs435 98 5 rfl
              have es435_6 : s435 98 6 = s433 98 6 := Gs435 98 6 rfl
              have es435_7 : s435 101 18 = s433 101 18 := Gs435 101 18 rfl
              have es435_8 : s435 101 25 = s433 101 25 := Gs435 101 25 rfl
              refine h_aload_n (pc' := 133) rfl rfl rfl ?_
              refine h_getI (pc' := 136) (v := s435 98 13) rfl rfl rfl rfl rfl rfl (fun z436 hz436 => ?_)
              have tz436 := tf_98_13 Is435
              refine h_zle (tg := 140) (pc' := 139) rfl rfl rfl hz436 (fun c437 => ?_) (fun c437 => ?_)
              · refine h_aload_n (pc' := 141) rfl rfl rfl ?_
                refine h_iload_n (pc' := 142) rfl rfl rfl ?_
                refine h_call (sp := false) (pc' := 145) (M := [(0, .ref 98), (1, .int r1)]) rfl rfl rfl rfl rfl rfl rfl rfl ?_
                refine v_readMore _ Is435 r1 _ hr1 (by omega) (by omega) (by omega) (by omega) (by omega) (fun s439 Is439 Gs439 ps439_0 ps439_1 => h_Kn ?_)
                have Fs439 := (Gs439).tr Fs435
                refine h_aload_n (pc' := 146) rfl rfl rfl ?_
                refine h_getI (pc' := 149) (v := s439 98 13) rfl rfl rfl rfl rfl rfl (fun z440 hz440 => ?_)
                have tz440 := tf_98_13 Is439
                refine h_zne (tg := 165) (pc' := 152) rfl rfl rfl hz440 (fun c441 => ?_) (fun c441 => ?_)
                · refine h_aload_n (pc' := 166) rfl rfl rfl ?_
                  refine h_call (sp := false) (pc' := 169) (M := [(0, .ref 98)]) rfl rfl rfl rfl rfl rfl rfl rfl ?_
                  refine v_step _ Is439  (fun s443 Is443 Gs443 ps443_0 ps443_1 ps443_2 => h_Kn ?_)
                  have Fs443 := (Gs443.l1).tr Fs439
                  have es443_5 : s443 98 5 = s439 98 5 := Gs443 98 5 rfl
                  have es443_6 : s443 98 6 = s439 98 6 := Gs443 98 6 rfl
                  have es443_7 : s443 101 18 = s439 101 18 := Gs443 101 18 rfl
                  have es443_8 : s443 101 25 = s439 101 25 := Gs443 101 25 rfl
                  exact h_vret rfl rfl (kk _ Is443 Fs443 (by omega) (by omega))
                · refine h_aload_n (pc' := 153) rfl rfl rfl ?_
                  refine h_getI (pc' := 156) (v := s439 98 17) rfl rfl rfl rfl rfl rfl (fun z444 hz444 => ?_)
                  have tz444 := tf_98_17 Is439
                  refine h_iconst (pc' := 157) (x := (Int32.ofInt 3)) rfl rfl rfl ?_
                  refine h_ceq (tg := 165) (pc' := 160) rfl rfl rfl hz444 ci_3 (fun c445 => ?_) (fun c445 => ?_)
                  · refine h_aload_n (pc' := 166) rfl rfl rfl ?_
                    refine h_call (sp := false) (pc' := 169) (M := [(0, .ref 98)]) rfl rfl rfl rfl rfl rfl rfl rfl ?_
                    refine v_step _ Is439  (fun s447 Is447 Gs447 ps447_0 ps447_1 ps447_2 => h_Kn ?_)
                    have Fs447 := (Gs447.l1).tr Fs439
                    have es447_5 : s447 98 5 = s439 98 5 := Gs447 98 5 rfl
                    have es447_6 : s447 98 6 = s439 98 6 := Gs447 98 6 rfl
                    have es447_7 : s447 101 18 = s439 101 18 := Gs447 101 18 rfl
                    have es447_8 : s447 101 25 = s439 101 25 := Gs447 101 25 rfl
                    exact h_vret rfl rfl (kk _ Is447 Fs447 (by omega) (by omega))
                  · refine h_aload_n (pc' := 161) rfl rfl rfl ?_
                    refine h_iconst (pc' := 162) (x := (Int32.ofInt 2)) rfl rfl rfl ?_
                    refine h_call (sp := false) (pc' := 165) (M := [(0, .ref 98), (1, .int (Int32.ofInt 2))]) rfl rfl rfl rfl rfl rfl rfl rfl ?_
                    refine h_aload_n (pc' := 1) rfl rfl rfl ?_
                    refine h_getI (pc' := 4) (v := s439 98 13) rfl rfl rfl rfl rfl rfl (fun z448 hz448 => ?_)
                    have tz448 := tf_98_13 Is439
                    refine h_zne (tg := 20) (pc' := 7) rfl rfl rfl hz448 (fun c449 => absurd c449 (by omega)) (fun c449 => ?_)
                    refine h_aload_n (pc' := 8) rfl rfl rfl ?_
                    refine h_iload_n (pc' := 9) rfl rfl rfl ?_
                    refine h_put (pc' := 12) rfl rfl rfl rfl rfl rfl ci_2 rfl ?_
                    have Is450 : h_I (h_up s439 98 13 2) := (if_98_13 Is439 (by omega))
                    have Fs450 := (Fs439.up (q := 98) (a := 13) (v := 2) rfl)
                    have es450_0 : h_up s439 98 13 2 98 15 = s439 98 15 := rfl
                    have es450_1 : h_up s439 98 13 2 98 16 = s439 98 16 := rfl
                    have es450_2 : h_up s439 98 13 2 98 17 = s439 98 17 := rfl
                    have es450_3 : h_up s439 98 13 2 98 18 = s439 98 18 := rfl
                    have es450_4 : h_up s439 98 13 2 98 13 = 2 := rfl
                    have es450_5 : h_up s439 98 13 2 98 5 = s439 98 5 := rfl
                    have es450_6 : h_up s439 98 13 2 98 6 = s439 98 6 := rfl
                    have es450_7 : h_up s439 98 13 2 101 18 = s439 101 18 := rfl
                    have es450_8 : h_up s439 98 13 2 101 25 = s439 101 25 := rfl
                    generalize h_up s439 98 13 2 = s450 at Is450 Fs450 es450_0 es450_1 es450_2 es450_3 es450_4 es450_5 es450_6 es450_7 es450_8 ⊢
                    refine h_aload_n (pc' := 13) rfl rfl rfl ?_
                    refine h_aload_n (pc' := 14) rfl rfl rfl ?_
                    refine h_getI (pc' := 17) (v := s450 98 16) rfl rfl rfl rfl rfl rfl (fun z451 hz451 => ?_)
                    have tz451 := tf_98_16 Is450
                    refine h_put (pc' := 20) rfl rfl rfl rfl rfl rfl hz451 rfl ?_
                    have Is452 : h_I (h_up s450 98 14 (s450 98 16)) := (if_98_14 Is450 (h_rgv hz451))
                    have Fs452 := (Fs450.up (q := 98) (a := 14) (v := (s450 98 16)) rfl)
                    have es452_0 : h_up s450 98 14 (s450 98 16) 98 15 = s450 98 15 := rfl
                    have es452_1 : h_up s450 98 14 (s450 98 16) 98 16 = s450 98 16 := rfl
                    have es452_2 : h_up s450 98 14 (s450 98 16) 98 17 = s450 98 17 := rfl
                    have es452_3 : h_up s450 98 14 (s450 98 16) 98 18 = s450 98 18 := rfl
                    have es452_4 : h_up s450 98 14 (s450 98 16) 98 13 = s450 98 13 := rfl
                    have es452_5 : h_up s450 98 14 (s450 98 16) 98 5 = s450 98 5 := rfl
                    have es452_6 : h_up s450 98 14 (s450 98 16) 98 6 = s450 98 6 := rfl
                    have es452_7 : h_up s450 98 14 (s450 98 16) 101 18 = s450 101 18 := rfl
                    have es452_8 : h_up s450 98 14 (s450 98 16) 101 25 = s450 101 25 := rfl
                    generalize h_up s450 98 14 (s450 98 16) = s452 at Is452 Fs452 es452_0 es452_1 es452_2 es452_3 es452_4 es452_5 es452_6 es452_7 es452_8 ⊢
                    refine h_vret rfl rfl (h_Kn ?_)
                    refine h_aload_n (pc' := 166) rfl rfl rfl ?_
                    refine h_call (sp := false) (pc' := 169) (M := [(0, .ref 98)]) rfl rfl rfl rfl rfl rfl rfl rfl ?_
                    refine v_step _ Is452  (fun s454 Is454 Gs454 ps454_0 ps454_1 ps454_2 => h_Kn ?_)
                    have Fs454 := (Gs454.l1).tr Fs452
                    have es454_5 : s454 98 5 = s452 98 5 := Gs454 98 5 rfl
                    have es454_6 : s454 98 6 = s452 98 6 := Gs454 98 6 rfl
                    have es454_7 : s454 101 18 = s452 101 18 := Gs454 101 18 rfl
                    have es454_8 : s454 101 25 = s452 101 25 := Gs454 101 25 rfl
                    exact h_vret rfl rfl (kk _ Is454 Fs454 (by omega) (by omega))
              · exact h_vret rfl rfl (kk _ Is435 Fs435 (by omega) (by omega))
            · refine h_iload_n (pc' := 115) rfl rfl rfl ?_
              refine h_bipush (pc' := 117) (x := (Int32.ofInt 7)) rfl rfl cb_7 ?_
              refine h_cne (tg := 124) (pc' := 120) rfl rfl rfl hr1 ci_7 (fun c455 => ?_) (fun c455 => absurd c455 (by omega))
              refine h_iconst (pc' := 125) (x := (Int32.ofInt 0)) rfl rfl rfl ?_
              refine h_put (pc' := 128) rfl rfl rfl rfl rfl rfl ci_0 (h_fb ci_0 (by omega)) ?_
              have Is456 : h_I (h_up σ 98 7 0) := (if_98_7 hI (by omega))
              have Fs456 := (F00.up (q := 98) (a := 7) (v := 0) rfl)
              have es456_0 : h_up σ 98 7 0 98 15 = σ 98 15 := rfl
              have es456_1 : h_up σ 98 7 0 98 16 = σ 98 16 := rfl
              have es456_2 : h_up σ 98 7 0 98 17 = σ 98 17 := rfl
              have es456_3 : h_up σ 98 7 0 98 18 = σ 98 18 := rfl
              have es456_4 : h_up σ 98 7 0 98 13 = σ 98 13 := rfl
              have es456_5 : h_up σ 98 7 0 98 5 = σ 98 5 := rfl
              have es456_6 : h_up σ 98 7 0 98 6 = σ 98 6 := rfl
              have es456_7 : h_up σ 98 7 0 101 18 = σ 101 18 := rfl
              have es456_8 : h_up σ 98 7 0 101 25 = σ 101 25 := rfl
              generalize h_up σ 98 7 0 = s456 at Is456 Fs456 es456_0 es456_1 es456_2 es456_3 es456_4 es456_5 es456_6 es456_7 es456_8 ⊢
              refine h_aload_n (pc' := 129) rfl rfl rfl ?_
              refine h_call (sp := false) (pc' := 132) (M := [(0, .ref 98)]) rfl rfl rfl rfl rfl rfl rfl rfl ?_
              refine v_step _ Is456  (fun s458 Is458 Gs458 ps458_0 ps458_1 ps458_2 => h_Kn ?_)
              have Fs458 := (Gs458.l1).tr Fs456
              have es458_5 : s458 98 5 = s456 98 5 := Gs458 98 5 rfl
              have es458_6 : s458 98 6 = s456 98 6 := Gs458 98 6 rfl
              have es458_7 : s458 101 18 = s456 101 18 := Gs458 101 18 rfl
              have es458_8 : s458 101 25 = s456 101 25 := Gs458 101 25 rfl
              refine h_aload_n (pc' := 133) rfl rfl rfl ?_
              refine h_getI (pc' := 136) (v := s458 98 13) rfl rfl rfl rfl rfl rfl (fun z459 hz459 => ?_)
              have tz459 := tf_98_13 Is458
              refine h_zle (tg := 140) (pc' := 139) rfl rfl rfl hz459 (fun c460 => ?_) (fun c460 => ?_)
              · refine h_aload_n (pc' := 141) rfl rfl rfl ?_
                refine h_iload_n (pc' := 142) rfl rfl rfl ?_
                refine h_call (sp := false) (pc' := 145) (M := [(0, .ref 98), (1, .int r1)]) rfl rfl rfl rfl rfl rfl rfl rfl ?_
                refine v_readMore _ Is458 r1 _ hr1 (by omega) (by omega) (by omega) (by omega) (by omega) (fun s462 Is462 Gs462 ps462_0 ps462_1 => h_Kn ?_)
                have Fs462 := (Gs462).tr Fs458
                refine h_aload_n (pc' := 146) rfl rfl rfl ?_
                refine h_getI (pc' := 149) (v := s462 98 13) rfl rfl rfl rfl rfl rfl (fun z463 hz463 => ?_)
                have tz463 := tf_98_13 Is462
                refine h_zne (tg := 165) (pc' := 152) rfl rfl rfl hz463 (fun c464 => ?_) (fun c464 => ?_)
                · refine h_aload_n (pc' := 166) rfl rfl rfl ?_
                  refine h_call (sp := false) (pc' := 169) (M := [(0, .ref 98)]) rfl rfl rfl rfl rfl rfl rfl rfl ?_
                  refine v_step _ Is462  (fun s466 Is466 Gs466 ps466_0 ps466_1 ps466_2 => h_Kn ?_)
                  have Fs466 := (Gs466.l1).tr Fs462
                  have es466_5 : s466 98 5 = s462 98 5 := Gs466 98 5 rfl
                  have es466_6 : s466 98 6 = s462 98 6 := Gs466 98 6 rfl
                  have es466_7 : s466 101 18 = s462 101 18 := Gs466 101 18 rfl
                  have es466_8 : s466 101 25 = s462 101 25 := Gs466 101 25 rfl
                  exact h_vret rfl rfl (kk _ Is466 Fs466 (by omega) (by omega))
                · refine h_aload_n (pc' := 153) rfl rfl rfl ?_
                  refine h_getI (pc' := 156) (v := s462 98 17) rfl rfl rfl rfl rfl rfl (fun z467 hz467 => ?_)
                  have tz467 := tf_98_17 Is462
                  refine h_iconst (pc' := 157) (x := (Int32.ofInt 3)) rfl rfl rfl ?_
                  refine h_ceq (tg := 165) (pc' := 160) rfl rfl rfl hz467 ci_3 (fun c468 => ?_) (fun c468 => ?_)
                  · refine h_aload_n (pc' := 166) rfl rfl rfl ?_
                    refine h_call (sp := false) (pc' := 169) (M := [(0, .ref 98)]) rfl rfl rfl rfl rfl rfl rfl rfl ?_
                    refine v_step _ Is462  (fun s470 Is470 Gs470 ps470_0 ps470_1 ps470_2 => h_Kn ?_)
                    have Fs470 := (Gs470.l1).tr Fs462
                    have es470_5 : s470 98 5 = s462 98 5 := Gs470 98 5 rfl
                    have es470_6 : s470 98 6 = s462 98 6 := Gs470 98 6 rfl
                    have es470_7 : s470 101 18 = s462 101 18 := Gs470 101 18 rfl
                    have es470_8 : s470 101 25 = s462 101 25 := Gs470 101 25 rfl
                    exact h_vret rfl rfl (kk _ Is470 Fs470 (by omega) (by omega))
                  · refine h_aload_n (pc' := 161) rfl rfl rfl ?_
                    refine h_iconst (pc' := 162) (x := (Int32.ofInt 2)) rfl rfl rfl ?_
                    refine h_call (sp := false) (pc' := 165) (M := [(0, .ref 98), (1, .int (Int32.ofInt 2))]) rfl rfl rfl rfl rfl rfl rfl rfl ?_
                    refine h_aload_n (pc' := 1) rfl rfl rfl ?_
                    refine h_getI (pc' := 4) (v := s462 98 13) rfl rfl rfl rfl rfl rfl (fun z471 hz471 => ?_)
                    have tz471 := tf_98_13 Is462
                    refine h_zne (tg := 20) (pc' := 7) rfl rfl rfl hz471 (fun c472 => absurd c472 (by omega)) (fun c472 => ?_)
                    refine h_aload_n (pc' := 8) rfl rfl rfl ?_
                    refine h_iload_n (pc' := 9) rfl rfl rfl ?_
                    refine h_put (pc' := 12) rfl rfl rfl rfl rfl rfl ci_2 rfl ?_
                    have Is473 : h_I (h_up s462 98 13 2) := (if_98_13 Is462 (by omega))
                    have Fs473 := (Fs462.up (q := 98) (a := 13) (v := 2) rfl)
                    have es473_0 : h_up s462 98 13 2 98 15 = s462 98 15 := rfl
                    have es473_1 : h_up s462 98 13 2 98 16 = s462 98 16 := rfl
                    have es473_2 : h_up s462 98 13 2 98 17 = s462 98 17 := rfl
                    have es473_3 : h_up s462 98 13 2 98 18 = s462 98 18 := rfl
                    have es473_4 : h_up s462 98 13 2 98 13 = 2 := rfl
                    have es473_5 : h_up s462 98 13 2 98 5 = s462 98 5 := rfl
                    have es473_6 : h_up s462 98 13 2 98 6 = s462 98 6 := rfl
                    have es473_7 : h_up s462 98 13 2 101 18 = s462 101 18 := rfl
                    have es473_8 : h_up s462 98 13 2 101 25 = s462 101 25 := rfl
                    generalize h_up s462 98 13 2 = s473 at Is473 Fs473 es473_0 es473_1 es473_2 es473_3 es473_4 es473_5 es473_6 es473_7 es473_8 ⊢
                    refine h_aload_n (pc' := 13) rfl rfl rfl ?_
                    refine h_aload_n (pc' := 14) rfl rfl rfl ?_
                    refine h_getI (pc' := 17) (v := s473 98 16) rfl rfl rfl rfl rfl rfl (fun z474 hz474 => ?_)
                    have tz474 := tf_98_16 Is473
                    refine h_put (pc' := 20) rfl rfl rfl rfl rfl rfl hz474 rfl ?_
                    have Is475 : h_I (h_up s473 98 14 (s473 98 16)) := (if_98_14 Is473 (h_rgv hz474))
                    have Fs475 := (Fs473.up (q := 98) (a := 14) (v := (s473 98 16)) rfl)
                    have es475_0 : h_up s473 98 14 (s473 98 16) 98 15 = s473 98 15 := rfl
                    have es475_1 : h_up s473 98 14 (s473 98 16) 98 16 = s473 98 16 := rfl
                    have es475_2 : h_up s473 98 14 (s473 98 16) 98 17 = s473 98 17 := rfl
                    have es475_3 : h_up s473 98 14 (s473 98 16) 98 18 = s473 98 18 := rfl
                    have es475_4 : h_up s473 98 14 (s473 98 16) 98 13 = s473 98 13 := rfl
                    have es475_5 : h_up s473 98 14 (s473 98 16) 98 5 = s473 98 5 := rfl
                    have es475_6 : h_up s473 98 14 (s473 98 16) 98 6 = s473 98 6 := rfl
                    have es475_7 : h_up s473 98 14 (s473 98 16) 101 18 = s473 101 18 := rfl
                    have es475_8 : h_up s473 98 14 (s473 98 16) 101 25 = s473 101 25 := rfl
                    generalize h_up s473 98 14 (s473 98 16) = s475 at Is475 Fs475 es475_0 es475_1 es475_2 es475_3 es475_4 es475_5 es475_6 es475_7 es475_8 ⊢
                    refine h_vret rfl rfl (h_Kn ?_)
                    refine h_aload_n (pc' := 166) rfl rfl rfl ?_
                    refine h_call (sp := false) (pc' := 169) (M := [(0, .ref 98)]) rfl rfl rfl rfl rfl rfl rfl rfl ?_
                    refine v_step _ Is475  (fun s477 Is477 Gs477 ps477_0 ps477_1 ps477_2 => h_Kn ?_)
                    have Fs477 := (Gs477.l1).tr Fs475
                    have es477_5 : s477 98 5 = s475 98 5 := Gs477 98 5 rfl
                    have es477_6 : s477 98 6 = s475 98 6 := Gs477 98 6 rfl
                    have es477_7 : s477 101 18 = s475 101 18 := Gs477 101 18 rfl
                    have es477_8 : s477 101 25 = s475 101 25 := Gs477 101 25 rfl
                    exact h_vret rfl rfl (kk _ Is477 Fs477 (by omega) (by omega))
              · exact h_vret rfl rfl (kk _ Is458 Fs458 (by omega) (by omega))
          · refine h_aload_n (pc' := 8) rfl rfl rfl ?_
            refine h_iload_n (pc' := 9) rfl rfl rfl ?_
            refine h_put (pc' := 12) rfl rfl rfl rfl rfl rfl ci_5 rfl ?_
            have Is478 : h_I (h_up σ 98 13 5) := (if_98_13 hI (by omega))
            have Fs478 := (F00.up (q := 98) (a := 13) (v := 5) rfl)
            have es478_0 : h_up σ 98 13 5 98 15 = σ 98 15 := rfl
            have es478_1 : h_up σ 98 13 5 98 16 = σ 98 16 := rfl
            have es478_2 : h_up σ 98 13 5 98 17 = σ 98 17 := rfl
            have es478_3 : h_up σ 98 13 5 98 18 = σ 98 18 := rfl
            have es478_4 : h_up σ 98 13 5 98 13 = 5 := rfl
            have es478_5 : h_up σ 98 13 5 98 5 = σ 98 5 := rfl
            have es478_6 : h_up σ 98 13 5 98 6 = σ 98 6 := rfl
            have es478_7 : h_up σ 98 13 5 101 18 = σ 101 18 := rfl
            have es478_8 : h_up σ 98 13 5 101 25 = σ 101 25 := rfl
            generalize h_up σ 98 13 5 = s478 at Is478 Fs478 es478_0 es478_1 es478_2 es478_3 es478_4 es478_5 es478_6 es478_7 es478_8 ⊢
            refine h_aload_n (pc' := 13) rfl rfl rfl ?_
            refine h_aload_n (pc' := 14) rfl rfl rfl ?_
            refine h_getI (pc' := 17) (v := s478 98 16) rfl rfl rfl rfl rfl rfl (fun z479 hz479 => ?_)
            have tz479 := tf_98_16 Is478
            refine h_put (pc' := 20) rfl rfl rfl rfl rfl rfl hz479 rfl ?_
            have Is480 : h_I (h_up s478 98 14 (s478 98 16)) := (if_98_14 Is478 (h_rgv hz479))
            have Fs480 := (Fs478.up (q := 98) (a := 14) (v := (s478 98 16)) rfl)
            have es480_0 : h_up s478 98 14 (s478 98 16) 98 15 = s478 98 15 := rfl
            have es480_1 : h_up s478 98 14 (s478 98 16) 98 16 = s478 98 16 := rfl
            have es480_2 : h_up s478 98 14 (s478 98 16) 98 17 = s478 98 17 := rfl
            have es480_3 : h_up s478 98 14 (s478 98 16) 98 18 = s478 98 18 := rfl
            have es480_4 : h_up s478 98 14 (s478 98 16) 98 13 = s478 98 13 := rfl
            have es480_5 : h_up s478 98 14 (s478 98 16) 98 5 = s478 98 5 := rfl
            have es480_6 : h_up s478 98 14 (s478 98 16) 98 6 = s478 98 6 := rfl
            have es480_7 : h_up s478 98 14 (s478 98 16) 101 18 = s478 101 18 := rfl
            have es480_8 : h_up s478 98 14 (s478 98 16) 101 25 = s478 101 25 := rfl
            generalize h_up s478 98 14 (s478 98 16) = s480 at Is480 Fs480 es480_0 es480_1 es480_2 es480_3 es480_4 es480_5 es480_6 es480_7 es480_8 ⊢
            refine h_vret rfl rfl (h_Kn ?_)
            refine h_iload_n (pc' := 89) rfl rfl rfl ?_
            refine h_bipush (pc' := 91) (x := (Int32.ofInt 7)) rfl rfl cb_7 ?_
            refine h_cne (tg := 106) (pc' := 94) rfl rfl rfl hr1 ci_7 (fun c481 => ?_) (fun c481 => absurd c481 (by omega))
            refine h_aload_n (pc' := 107) rfl rfl rfl ?_
            refine h_aload_n (pc' := 108) rfl rfl rfl ?_
            refine h_getI (pc' := 111) (v := s480 98 7) rfl rfl rfl rfl rfl rfl (fun z482 hz482 => ?_)
            have tz482 := tf_98_7 Is480
            refine h_zne (tg := 120) (pc' := 114) rfl rfl rfl hz482 (fun c483 => ?_) (fun c483 => ?_)
            · refine h_iconst (pc' := 121) (x := (Int32.ofInt 1)) rfl rfl rfl ?_
              refine h_goto (pc' := 125) rfl rfl ?_
              refine h_put (pc' := 128) rfl rfl rfl rfl rfl rfl ci_1 (h_fb ci_1 (by omega)) ?_
              have Is484 : h_I (h_up s480 98 7 1) := (if_98_7 Is480 (by omega))
              have Fs484 := (Fs480.up (q := 98) (a := 7) (v := 1) rfl)
              have es484_0 : h_up s480 98 7 1 98 15 = s480 98 15 := rfl
              have es484_1 : h_up s480 98 7 1 98 16 = s480 98 16 := rfl
              have es484_2 : h_up s480 98 7 1 98 17 = s480 98 17 := rfl
              have es484_3 : h_up s480 98 7 1 98 18 = s480 98 18 := rfl
              have es484_4 : h_up s480 98 7 1 98 13 = s480 98 13 := rfl
              have es484_5 : h_up s480 98 7 1 98 5 = s480 98 5 := rfl
              have es484_6 : h_up s480 98 7 1 98 6 = s480 98 6 := rfl
              have es484_7 : h_up s480 98 7 1 101 18 = s480 101 18 := rfl
              have es484_8 : h_up s480 98 7 1 101 25 = s480 101 25 := rfl
              generalize h_up s480 98 7 1 = s484 at Is484 Fs484 es484_0 es484_1 es484_2 es484_3 es484_4 es484_5 es484_6 es484_7 es484_8 ⊢
              refine h_aload_n (pc' := 129) rfl rfl rfl ?_
              refine h_call (sp := false) (pc' := 132) (M := [(0, .ref 98)]) rfl rfl rfl rfl rfl rfl rfl rfl ?_
              refine v_step _ Is484  (fun s486 Is486 Gs486 ps486_0 ps486_1 ps486_2 => h_Kn ?_)
              have Fs486 := (Gs486.l1).tr Fs484
              have es486_5 : s486 98 5 = s484 98 5 := Gs486 98 5 rfl
              have es486_6 : s486 98 6 = s484 98 6 := Gs486 98 6 rfl
              have es486_7 : s486 101 18 = s484 101 18 := Gs486 101 18 rfl
              have es486_8 : s486 101 25 = s484 101 25 := Gs486 101 25 rfl
              refine h_aload_n (pc' := 133) rfl rfl rfl ?_
              refine h_getI (pc' := 136) (v := s486 98 13) rfl rfl rfl rfl rfl rfl (fun z487 hz487 => ?_)
              have tz487 := tf_98_13 Is486
              refine h_zle (tg := 140) (pc' := 139) rfl rfl rfl hz487 (fun c488 => ?_) (fun c488 => ?_)
              · refine h_aload_n (pc' := 141) rfl rfl rfl ?_
                refine h_iload_n (pc' := 142) rfl rfl rfl ?_
                refine h_call (sp := false) (pc' := 145) (M := [(0, .ref 98), (1, .int r1)]) rfl rfl rfl rfl rfl rfl rfl rfl ?_
                refine v_readMore _ Is486 r1 _ hr1 (by omega) (by omega) (by omega) (by omega) (by omega) (fun s490 Is490 Gs490 ps490_0 ps490_1 => h_Kn ?_)
                have Fs490 := (Gs490).tr Fs486
                refine h_aload_n (pc' := 146) rfl rfl rfl ?_
                refine h_getI (pc' := 149) (v := s490 98 13) rfl rfl rfl rfl rfl rfl (fun z491 hz491 => ?_)
                have tz491 := tf_98_13 Is490
                refine h_zne (tg := 165) (pc' := 152) rfl rfl rfl hz491 (fun c492 => ?_) (fun c492 => ?_)
                · refine h_aload_n (pc' := 166) rfl rfl rfl ?_
                  refine h_call (sp := false) (pc' := 169) (M := [(0, .ref 98)]) rfl rfl rfl rfl rfl rfl rfl rfl ?_
                  refine v_step _ Is490  (fun s494 Is494 Gs494 ps494_0 ps494_1 ps494_2 => h_Kn ?_)
                  have Fs494 := (Gs494.l1).tr Fs490
                  have es494_5 : s494 98 5 = s490 98 5 := Gs494 98 5 rfl
                  have es494_6 : s494 98 6 = s490 98 6 := Gs494 98 6 rfl
                  have es494_7 : s494 101 18 = s490 101 18 := Gs494 101 18 rfl
                  have es494_8 : s494 101 25 = s490 101 25 := Gs494 101 25 rfl
                  exact h_vret rfl rfl (kk _ Is494 Fs494 (by omega) (by omega))
                · refine h_aload_n (pc' := 153) rfl rfl rfl ?_
                  refine h_getI (pc' := 156) (v := s490 98 17) rfl rfl rfl rfl rfl rfl (fun z495 hz495 => ?_)
                  have tz495 := tf_98_17 Is490
                  refine h_iconst (pc' := 157) (x := (Int32.ofInt 3)) rfl rfl rfl ?_
                  refine h_ceq (tg := 165) (pc' := 160) rfl rfl rfl hz495 ci_3 (fun c496 => ?_) (fun c496 => ?_)
                  · refine h_aload_n (pc' := 166) rfl rfl rfl ?_
                    refine h_call (sp := false) (pc' := 169) (M := [(0, .ref 98)]) rfl rfl rfl rfl rfl rfl rfl rfl ?_
                    refine v_step _ Is490  (fun s498 Is498 Gs498 ps498_0 ps498_1 ps498_2 => h_Kn ?_)
                    have Fs498 := (Gs498.l1).tr Fs490
                    have es498_5 : s498 98 5 = s490 98 5 := Gs498 98 5 rfl
                    have es498_6 : s498 98 6 = s490 98 6 := Gs498 98 6 rfl
                    have es498_7 : s498 101 18 = s490 101 18 := Gs498 101 18 rfl
                    have es498_8 : s498 101 25 = s490 101 25 := Gs498 101 25 rfl
                    exact h_vret rfl rfl (kk _ Is498 Fs498 (by omega) (by omega))
                  · refine h_aload_n (pc' := 161) rfl rfl rfl ?_
                    refine h_iconst (pc' := 162) (x := (Int32.ofInt 2)) rfl rfl rfl ?_
                    refine h_call (sp := false) (pc' := 165) (M := [(0, .ref 98), (1, .int (Int32.ofInt 2))]) rfl rfl rfl rfl rfl rfl rfl rfl ?_
                    refine h_aload_n (pc' := 1) rfl rfl rfl ?_
                    refine h_getI (pc' := 4) (v := s490 98 13) rfl rfl rfl rfl rfl rfl (fun z499 hz499 => ?_)
                    have tz499 := tf_98_13 Is490
                    refine h_zne (tg := 20) (pc' := 7) rfl rfl rfl hz499 (fun c500 => absurd c500 (by omega)) (fun c500 => ?_)
                    refine h_aload_n (pc' := 8) rfl rfl rfl ?_
                    refine h_iload_n (pc' := 9) rfl rfl rfl ?_
                    refine h_put (pc' := 12) rfl rfl rfl rfl rfl rfl ci_2 rfl ?_
                    have Is501 : h_I (h_up s490 98 13 2) := (if_98_13 Is490 (by omega))
                    have Fs501 := (Fs490.up (q := 98) (a := 13) (v := 2) rfl)
                    have es501_0 : h_up s490 98 13 2 98 15 = s490 98 15 := rfl
                    have es501_1 : h_up s490 98 13 2 98 16 = s490 98 16 := rfl
                    have es501_2 : h_up s490 98 13 2 98 17 = s490 98 17 := rfl
                    have es501_3 : h_up s490 98 13 2 98 18 = s490 98 18 := rfl
                    have es501_4 : h_up s490 98 13 2 98 13 = 2 := rfl
                    have es501_5 : h_up s490 98 13 2 98 5 = s490 98 5 := rfl
                    have es501_6 : h_up s490 98 13 2 98 6 = s490 98 6 := rfl
                    have es501_7 : h_up s490 98 13 2 101 18 = s490 101 18 := rfl
                    have es501_8 : h_up s490 98 13 2 101 25 = s490 101 25 := rfl
                    generalize h_up s490 98 13 2 = s501 at Is501 Fs501 es501_0 es501_1 es501_2 es501_3 es501_4 es501_5 es501_6 es501_7 es501_8 ⊢
                    refine h_aload_n (pc' := 13) rfl rfl rfl ?_
                    refine h_aload_n (pc' := 14) rfl rfl rfl ?_
                    refine h_getI (pc' := 17) (v := s501 98 16) rfl rfl rfl rfl rfl rfl (fun z502 hz502 => ?_)
                    have tz502 := tf_98_16 Is501
                    refine h_put (pc' := 20) rfl rfl rfl rfl rfl rfl hz502 rfl ?_
                    have Is503 : h_I (h_up s501 98 14 (s501 98 16)) := (if_98_14 Is501 (h_rgv hz502))
                    have Fs503 := (Fs501.up (q := 98) (a := 14) (v := (s501 98 16)) rfl)
                    have es503_0 : h_up s501 98 14 (s501 98 16) 98 15 = s501 98 15 := rfl
                    have es503_1 : h_up s501 98 14 (s501 98 16) 98 16 = s501 98 16 := rfl
                    have es503_2 : h_up s501 98 14 (s501 98 16) 98 17 = s501 98 17 := rfl
                    have es503_3 : h_up s501 98 14 (s501 98 16) 98 18 = s501 98 18 := rfl
                    have es503_4 : h_up s501 98 14 (s501 98 16) 98 13 = s501 98 13 := rfl
                    have es503_5 : h_up s501 98 14 (s501 98 16) 98 5 = s501 98 5 := rfl
                    have es503_6 : h_up s501 98 14 (s501 98 16) 98 6 = s501 98 6 := rfl
                    have es503_7 : h_up s501 98 14 (s501 98 16) 101 18 = s501 101 18 := rfl
                    have es503_8 : h_up s501 98 14 (s501 98 16) 101 25 = s501 101 25 := rfl
                    generalize h_up s501 98 14 (s501 98 16) = s503 at Is503 Fs503 es503_0 es503_1 es503_2 es503_3 es503_4 es503_5 es503_6 es503_7 es503_8 ⊢
                    refine h_vret rfl rfl (h_Kn ?_)
                    refine h_aload_n (pc' := 166) rfl rfl rfl ?_
                    refine h_call (sp := false) (pc' := 169) (M := [(0, .ref 98)]) rfl rfl rfl rfl rfl rfl rfl rfl ?_
                    refine v_step _ Is503  (fun s505 Is505 Gs505 ps505_0 ps505_1 ps505_2 => h_Kn ?_)
                    have Fs505 := (Gs505.l1).tr Fs503
                    have es505_5 : s505 98 5 = s503 98 5 := Gs505 98 5 rfl
                    have es505_6 : s505 98 6 = s503 98 6 := Gs505 98 6 rfl
                    have es505_7 : s505 101 18 = s503 101 18 := Gs505 101 18 rfl
                    have es505_8 : s505 101 25 = s503 101 25 := Gs505 101 25 rfl
                    exact h_vret rfl rfl (kk _ Is505 Fs505 (by omega) (by omega))
              · exact h_vret rfl rfl (kk _ Is486 Fs486 (by omega) (by omega))
            · refine h_iload_n (pc' := 115) rfl rfl rfl ?_
              refine h_bipush (pc' := 117) (x := (Int32.ofInt 7)) rfl rfl cb_7 ?_
              refine h_cne (tg := 124) (pc' := 120) rfl rfl rfl hr1 ci_7 (fun c506 => ?_) (fun c506 => absurd c506 (by omega))
              refine h_iconst (pc' := 125) (x := (Int32.ofInt 0)) rfl rfl rfl ?_
              refine h_put (pc' := 128) rfl rfl rfl rfl rfl rfl ci_0 (h_fb ci_0 (by omega)) ?_
              have Is507 : h_I (h_up s480 98 7 0) := (if_98_7 Is480 (by omega))
              have Fs507 := (Fs480.up (q := 98) (a := 7) (v := 0) rfl)
              have es507_0 : h_up s480 98 7 0 98 15 = s480 98 15 := rfl
              have es507_1 : h_up s480 98 7 0 98 16 = s480 98 16 := rfl
              have es507_2 : h_up s480 98 7 0 98 17 = s480 98 17 := rfl
              have es507_3 : h_up s480 98 7 0 98 18 = s480 98 18 := rfl
              have es507_4 : h_up s480 98 7 0 98 13 = s480 98 13 := rfl
              have es507_5 : h_up s480 98 7 0 98 5 = s480 98 5 := rfl
              have es507_6 : h_up s480 98 7 0 98 6 = s480 98 6 := rfl
              have es507_7 : h_up s480 98 7 0 101 18 = s480 101 18 := rfl
              have es507_8 : h_up s480 98 7 0 101 25 = s480 101 25 := rfl
              generalize h_up s480 98 7 0 = s507 at Is507 Fs507 es507_0 es507_1 es507_2 es507_3 es507_4 es507_5 es507_6 es507_7 es507_8 ⊢
              refine h_aload_n (pc' := 129) rfl rfl rfl ?_
              refine h_call (sp := false) (pc' := 132) (M := [(0, .ref 98)]) rfl rfl rfl rfl rfl rfl rfl rfl ?_
              refine v_step _ Is507  (fun s509 Is509 Gs509 ps509_0 ps509_1 ps509_2 => h_Kn ?_)
              have Fs509 := (Gs509.l1).tr Fs507
              have es509_5 : s509 98 5 = s507 98 5 := Gs509 98 5 rfl
              have es509_6 : s509 98 6 = s507 98 6 := Gs509 98 6 rfl
              have es509_7 : s509 101 18 = s507 101 18 := Gs509 101 18 rfl
              have es509_8 : s509 101 25 = s507 101 25 := Gs509 101 25 rfl
              refine h_aload_n (pc' := 133) rfl rfl rfl ?_
              refine h_getI (pc' := 136) (v := s509 98 13) rfl rfl rfl rfl rfl rfl (fun z510 hz510 => ?_)
              have tz510 := tf_98_13 Is509
              refine h_zle (tg := 140) (pc' := 139) rfl rfl rfl hz510 (fun c511 => ?_) (fun c511 => ?_)
              · refine h_aload_n (pc' := 141) rfl rfl rfl ?_
                refine h_iload_n (pc' := 142) rfl rfl rfl ?_
                refine h_call (sp := false) (pc' := 145) (M := [(0, .ref 98), (1, .int r1)]) rfl rfl rfl rfl rfl rfl rfl rfl ?_
                refine v_readMore _ Is509 r1 _ hr1 (by omega) (by omega) (by omega) (by omega) (by omega) (fun s513 Is513 Gs513 ps513_0 ps513_1 => h_Kn ?_)
                have Fs513 := (Gs513).tr Fs509
                refine h_aload_n (pc' := 146) rfl rfl rfl ?_
                refine h_getI (pc' := 149) (v := s513 98 13) rfl rfl rfl rfl rfl rfl (fun z514 hz514 => ?_)
                have tz514 := tf_98_13 Is513
                refine h_zne (tg := 165) (pc' := 152) rfl rfl rfl hz514 (fun c515 => ?_) (fun c515 => ?_)
                · refine h_aload_n (pc' := 166) rfl rfl rfl ?_
                  refine h_call (sp := false) (pc' := 169) (M := [(0, .ref 98)]) rfl rfl rfl rfl rfl rfl rfl rfl ?_
                  refine v_step _ Is513  (fun s517 Is517 Gs517 ps517_0 ps517_1 ps517_2 => h_Kn ?_)
                  have Fs517 := (Gs517.l1).tr Fs513
                  have es517_5 : s517 98 5 = s513 98 5 := Gs517 98 5 rfl
                  have es517_6 : s517 98 6 = s513 98 6 := Gs517 98 6 rfl
                  have es517_7 : s517 101 18 = s513 101 18 := Gs517 101 18 rfl
                  have es517_8 : s517 101 25 = s513 101 25 := Gs517 101 25 rfl
                  exact h_vret rfl rfl (kk _ Is517 Fs517 (by omega) (by omega))
                · refine h_aload_n (pc' := 153) rfl rfl rfl ?_
                  refine h_getI (pc' := 156) (v := s513 98 17) rfl rfl rfl rfl rfl rfl (fun z518 hz518 => ?_)
                  have tz518 := tf_98_17 Is513
                  refine h_iconst (pc' := 157) (x := (Int32.ofInt 3)) rfl rfl rfl ?_
                  refine h_ceq (tg := 165) (pc' := 160) rfl rfl rfl hz518 ci_3 (fun c519 => ?_) (fun c519 => ?_)
                  · refine h_aload_n (pc' := 166) rfl rfl rfl ?_
                    refine h_call (sp := false) (pc' := 169) (M := [(0, .ref 98)]) rfl rfl rfl rfl rfl rfl rfl rfl ?_
                    refine v_step _ Is513  (fun s521 Is521 Gs521 ps521_0 ps521_1 ps521_2 => h_Kn ?_)
                    have Fs521 := (Gs521.l1).tr Fs513
                    have es521_5 : s521 98 5 = s513 98 5 := Gs521 98 5 rfl
                    have es521_6 : s521 98 6 = s513 98 6 := Gs521 98 6 rfl
                    have es521_7 : s521 101 18 = s513 101 18 := Gs521 101 18 rfl
                    have es521_8 : s521 101 25 = s513 101 25 := Gs521 101 25 rfl
                    exact h_vret rfl rfl (kk _ Is521 Fs521 (by omega) (by omega))
                  · refine h_aload_n (pc' := 161) rfl rfl rfl ?_
                    refine h_iconst (pc' := 162) (x := (Int32.ofInt 2)) rfl rfl rfl ?_
                    refine h_call (sp := false) (pc' := 165) (M := [(0, .ref 98), (1, .int (Int32.ofInt 2))]) rfl rfl rfl rfl rfl rfl rfl rfl ?_
                    refine h_aload_n (pc' := 1) rfl rfl rfl ?_
                    refine h_getI (pc' := 4) (v := s513 98 13) rfl rfl rfl rfl rfl rfl (fun z522 hz522 => ?_)
                    have tz522 := tf_98_13 Is513
                    refine h_zne (tg := 20) (pc' := 7) rfl rfl rfl hz522 (fun c523 => absurd c523 (by omega)) (fun c523 => ?_)
                    refine h_aload_n (pc' := 8) rfl rfl rfl ?_
                    refine h_iload_n (pc' := 9) rfl rfl rfl ?_
                    refine h_put (pc' := 12) rfl rfl rfl rfl rfl rfl ci_2 rfl ?_
                    have Is524 : h_I (h_up s513 98 13 2) := (if_98_13 Is513 (by omega))
                    have Fs524 := (Fs513.up (q := 98) (a := 13) (v := 2) rfl)
                    have es524_0 : h_up s513 98 13 2 98 15 = s513 98 15 := rfl
                    have es524_1 : h_up s513 98 13 2 98 16 = s513 98 16 := rfl
                    have es524_2 : h_up s513 98 13 2 98 17 = s513 98 17 := rfl
                    have es524_3 : h_up s513 98 13 2 98 18 = s513 98 18 := rfl
                    have es524_4 : h_up s513 98 13 2 98 13 = 2 := rfl
                    have es524_5 : h_up s513 98 13 2 98 5 = s513 98 5 := rfl
                    have es524_6 : h_up s513 98 13 2 98 6 = s513 98 6 := rfl
                    have es524_7 : h_up s513 98 13 2 101 18 = s513 101 18 := rfl
                    have es524_8 : h_up s513 98 13 2 101 25 = s513 101 25 := rfl
                    generalize h_up s513 98 13 2 = s524 at Is524 Fs524 es524_0 es524_1 es524_2 es524_3 es524_4 es524_5 es524_6 es524_7 es524_8 ⊢
                    refine h_aload_n (pc' := 13) rfl rfl rfl ?_
                    refine h_aload_n (pc' := 14) rfl rfl rfl ?_
                    refine h_getI (pc' := 17) (v := s524 98 16) rfl rfl rfl rfl rfl rfl (fun z525 hz525 => ?_)
                    have tz525 := tf_98_16 Is524
                    refine h_put (pc' := 20) rfl rfl rfl rfl rfl rfl hz525 rfl ?_
                    have Is526 : h_I (h_up s524 98 14 (s524 98 16)) := (if_98_14 Is524 (h_rgv hz525))
                    have Fs526 := (Fs524.up (q := 98) (a := 14) (v := (s524 98 16)) rfl)
                    have es526_0 : h_up s524 98 14 (s524 98 16) 98 15 = s524 98 15 := rfl
                    have es526_1 : h_up s524 98 14 (s524 98 16) 98 16 = s524 98 16 := rfl
                    have es526_2 : h_up s524 98 14 (s524 98 16) 98 17 = s524 98 17 := rfl
                    have es526_3 : h_up s524 98 14 (s524 98 16) 98 18 = s524 98 18 := rfl
                    have es526_4 : h_up s524 98 14 (s524 98 16) 98 13 = s524 98 13 := rfl
                    have es526_5 : h_up s524 98 14 (s524 98 16) 98 5 = s524 98 5 := rfl
                    have es526_6 : h_up s524 98 14 (s524 98 16) 98 6 = s524 98 6 := rfl
                    have es526_7 : h_up s524 98 14 (s524 98 16) 101 18 = s524 101 18 := rfl
                    have es526_8 : h_up s524 98 14 (s524 98 16) 101 25 = s524 101 25 := rfl
                    generalize h_up s524 98 14 (s524 98 16) = s526 at Is526 Fs526 es526_0 es526_1 es526_2 es526_3 es526_4 es526_5 es526_6 es526_7 es526_8 ⊢
                    refine h_vret rfl rfl (h_Kn ?_)
                    refine h_aload_n (pc' := 166) rfl rfl rfl ?_
                    refine h_call (sp := false) (pc' := 169) (M := [(0, .ref 98)]) rfl rfl rfl rfl rfl rfl rfl rfl ?_
                    refine v_step _ Is526  (fun s528 Is528 Gs528 ps528_0 ps528_1 ps528_2 => h_Kn ?_)
                    have Fs528 := (Gs528.l1).tr Fs526
                    have es528_5 : s528 98 5 = s526 98 5 := Gs528 98 5 rfl
                    have es528_6 : s528 98 6 = s526 98 6 := Gs528 98 6 rfl
                    have es528_7 : s528 101 18 = s526 101 18 := Gs528 101 18 rfl
                    have es528_8 : s528 101 25 = s526 101 25 := Gs528 101 25 rfl
                    exact h_vret rfl rfl (kk _ Is528 Fs528 (by omega) (by omega))
              · exact h_vret rfl rfl (kk _ Is509 Fs509 (by omega) (by omega))
        · refine h_iload_n (pc' := 54) rfl rfl rfl ?_
          refine h_iconst (pc' := 55) (x := (Int32.ofInt 5)) rfl rfl rfl ?_
          refine h_cne (tg := 69) (pc' := 58) rfl rfl rfl hr1 ci_5 (fun c529 => ?_) (fun c529 => absurd c529 (by omega))
          refine h_iload_n (pc' := 70) rfl rfl rfl ?_
          refine h_bipush (pc' := 72) (x := (Int32.ofInt 6)) rfl rfl cb_6 ?_
          refine h_cne (tg := 88) (pc' := 75) rfl rfl rfl hr1 ci_6 (fun c530 => ?_) (fun c530 => absurd c530 (by omega))
          refine h_iload_n (pc' := 89) rfl rfl rfl ?_
          refine h_bipush (pc' := 91) (x := (Int32.ofInt 7)) rfl rfl cb_7 ?_
          refine h_cne (tg := 106) (pc' := 94) rfl rfl rfl hr1 ci_7 (fun c531 => ?_) (fun c531 => absurd c531 (by omega))
          refine h_aload_n (pc' := 107) rfl rfl rfl ?_
          refine h_aload_n (pc' := 108) rfl rfl rfl ?_
          refine h_getI (pc' := 111) (v := σ 98 7) rfl rfl rfl rfl rfl rfl (fun z532 hz532 => ?_)
          have tz532 := tf_98_7 hI
          refine h_zne (tg := 120) (pc' := 114) rfl rfl rfl hz532 (fun c533 => ?_) (fun c533 => ?_)
          · refine h_iconst (pc' := 121) (x := (Int32.ofInt 1)) rfl rfl rfl ?_
            refine h_goto (pc' := 125) rfl rfl ?_
            refine h_put (pc' := 128) rfl rfl rfl rfl rfl rfl ci_1 (h_fb ci_1 (by omega)) ?_
            have Is534 : h_I (h_up σ 98 7 1) := (if_98_7 hI (by omega))
            have Fs534 := (F00.up (q := 98) (a := 7) (v := 1) rfl)
            have es534_0 : h_up σ 98 7 1 98 15 = σ 98 15 := rfl
            have es534_1 : h_up σ 98 7 1 98 16 = σ 98 16 := rfl
            have es534_2 : h_up σ 98 7 1 98 17 = σ 98 17 := rfl
            have es534_3 : h_up σ 98 7 1 98 18 = σ 98 18 := rfl
            have es534_4 : h_up σ 98 7 1 98 13 = σ 98 13 := rfl
            have es534_5 : h_up σ 98 7 1 98 5 = σ 98 5 := rfl
            have es534_6 : h_up σ 98 7 1 98 6 = σ 98 6 := rfl
            have es534_7 : h_up σ 98 7 1 101 18 = σ 101 18 := rfl
            have es534_8 : h_up σ 98 7 1 101 25 = σ 101 25 := rfl
            generalize h_up σ 98 7 1 = s534 at Is534 Fs534 es534_0 es534_1 es534_2 es534_3 es534_4 es534_5 es534_6 es534_7 es534_8 ⊢
            refine h_aload_n (pc' := 129) rfl rfl rfl ?_
            refine h_call (sp := false) (pc' := 132) (M := [(0, .ref 98)]) rfl rfl rfl rfl rfl rfl rfl rfl ?_
            refine v_step _ Is534  (fun s536 Is536 Gs536 ps536_0 ps536_1 ps536_2 => h_Kn ?_)
            have Fs536 := (Gs536.l1).tr Fs534
            have es536_5 : s536 98 5 = s534 98 5 := Gs536 98 5 rfl
            have es536_6 : s536 98 6 = s534 98 6 := Gs536 98 6 rfl
            have es536_7 : s536 101 18 = s534 101 18 := Gs536 101 18 rfl
            have es536_8 : s536 101 25 = s534 101 25 := Gs536 101 25 rfl
            refine h_aload_n (pc' := 133) rfl rfl rfl ?_
            refine h_getI (pc' := 136) (v := s536 98 13) rfl rfl rfl rfl rfl rfl (fun z537 hz537 => ?_)
            have tz537 := tf_98_13 Is536
            refine h_zle (tg := 140) (pc' := 139) rfl rfl rfl hz537 (fun c538 => ?_) (fun c538 => ?_)
            · refine h_aload_n (pc' := 141) rfl rfl rfl ?_
              refine h_iload_n (pc' := 142) rfl rfl rfl ?_
              refine h_call (sp := false) (pc' := 145) (M := [(0, .ref 98), (1, .int r1)]) rfl rfl rfl rfl rfl rfl rfl rfl ?_
              refine v_readMore _ Is536 r1 _ hr1 (by omega) (by omega) (by omega) (by omega) (by omega) (fun s540 Is540 Gs540 ps540_0 ps540_1 => h_Kn ?_)
              have Fs540 := (Gs540).tr Fs536
              refine h_aload_n (pc' := 146) rfl rfl rfl ?_
              refine h_getI (pc' := 149) (v := s540 98 13) rfl rfl rfl rfl rfl rfl (fun z541 hz541 => ?_)
              have tz541 := tf_98_13 Is540
              refine h_zne (tg := 165) (pc' := 152) rfl rfl rfl hz541 (fun c542 => ?_) (fun c542 => ?_)
              · refine h_aload_n (pc' := 166) rfl rfl rfl ?_
                refine h_call (sp := false) (pc' := 169) (M := [(0, .ref 98)]) rfl rfl rfl rfl rfl rfl rfl rfl ?_
                refine v_step _ Is540  (fun s544 Is544 Gs544 ps544_0 ps544_1 ps544_2 => h_Kn ?_)
                have Fs544 := (Gs544.l1).tr Fs540
                have es544_5 : s544 98 5 = s540 98 5 := Gs544 98 5 rfl
                have es544_6 : s544 98 6 = s540 98 6 := Gs544 98 6 rfl
                have es544_7 : s544 101 18 = s540 101 18 := Gs544 101 18 rfl
                have es544_8 : s544 101 25 = s540 101 25 := Gs544 101 25 rfl
                exact h_vret rfl rfl (kk _ Is544 Fs544 (by omega) (by omega))
              · refine h_aload_n (pc' := 153) rfl rfl rfl ?_
                refine h_getI (pc' := 156) (v := s540 98 17) rfl rfl rfl rfl rfl rfl (fun z545 hz545 => ?_)
                have tz545 := tf_98_17 Is540
                refine h_iconst (pc' := 157) (x := (Int32.ofInt 3)) rfl rfl rfl ?_
                refine h_ceq (tg := 165) (pc' := 160) rfl rfl rfl hz545 ci_3 (fun c546 => ?_) (fun c546 => ?_)
                · refine h_aload_n (pc' := 166) rfl rfl rfl ?_
                  refine h_call (sp := false) (pc' := 169) (M := [(0, .ref 98)]) rfl rfl rfl rfl rfl rfl rfl rfl ?_
                  refine v_step _ Is540  (fun s548 Is548 Gs548 ps548_0 ps548_1 ps548_2 => h_Kn ?_)
                  have Fs548 := (Gs548.l1).tr Fs540
                  have es548_5 : s548 98 5 = s540 98 5 := Gs548 98 5 rfl
                  have es548_6 : s548 98 6 = s540 98 6 := Gs548 98 6 rfl
                  have es548_7 : s548 101 18 = s540 101 18 := Gs548 101 18 rfl
                  have es548_8 : s548 101 25 = s540 101 25 := Gs548 101 25 rfl
                  exact h_vret rfl rfl (kk _ Is548 Fs548 (by omega) (by omega))
                · refine h_aload_n (pc' := 161) rfl rfl rfl ?_
                  refine h_iconst (pc' := 162) (x := (Int32.ofInt 2)) rfl rfl rfl ?_
                  refine h_call (sp := false) (pc' := 165) (M := [(0, .ref 98), (1, .int (Int32.ofInt 2))]) rfl rfl rfl rfl rfl rfl rfl rfl ?_
                  refine h_aload_n (pc' := 1) rfl rfl rfl ?_
                  refine h_getI (pc' := 4) (v := s540 98 13) rfl rfl rfl rfl rfl rfl (fun z549 hz549 => ?_)
                  have tz549 := tf_98_13 Is540
                  refine h_zne (tg := 20) (pc' := 7) rfl rfl rfl hz549 (fun c550 => absurd c550 (by omega)) (fun c550 => ?_)
                  refine h_aload_n (pc' := 8) rfl rfl rfl ?_
                  refine h_iload_n (pc' := 9) rfl rfl rfl ?_
                  refine h_put (pc' := 12) rfl rfl rfl rfl rfl rfl ci_2 rfl ?_
                  have Is551 : h_I (h_up s540 98 13 2) := (if_98_13 Is540 (by omega))
                  have Fs551 := (Fs540.up (q := 98) (a := 13) (v := 2) rfl)
                  have es551_0 : h_up s540 98 13 2 98 15 = s540 98 15 := rfl
                  have es551_1 : h_up s540 98 13 2 98 16 = s540 98 16 := rfl
                  have es551_2 : h_up s540 98 13 2 98 17 = s540 98 17 := rfl
                  have es551_3 : h_up s540 98 13 2 98 18 = s540 98 18 := rfl
                  have es551_4 : h_up s540 98 13 2 98 13 = 2 := rfl
                  have es551_5 : h_up s540 98 13 2 98 5 = s540 98 5 := rfl
                  have es551_6 : h_up s540 98 13 2 98 6 = s540 98 6 := rfl
                  have es551_7 : h_up s540 98 13 2 101 18 = s540 101 18 := rfl
                  have es551_8 : h_up s540 98 13 2 101 25 = s540 101 25 := rfl
                  generalize h_up s540 98 13 2 = s551 at Is551 Fs551 es551_0 es551_1 es551_2 es551_3 es551_4 es551_5 es551_6 es551_7 es551_8 ⊢
                  refine h_aload_n (pc' := 13) rfl rfl rfl ?_
                  refine h_aload_n (pc' := 14) rfl rfl rfl ?_
                  refine h_getI (pc' := 17) (v := s551 98 16) rfl rfl rfl rfl rfl rfl (fun z552 hz552 => ?_)
                  have tz552 := tf_98_16 Is551
                  refine h_put (pc' := 20) rfl rfl rfl rfl rfl rfl hz552 rfl ?_
                  have Is553 : h_I (h_up s551 98 14 (s551 98 16)) := (if_98_14 Is551 (h_rgv hz552))
                  have Fs553 := (Fs551.up (q := 98) (a := 14) (v := (s551 98 16)) rfl)
                  have es553_0 : h_up s551 98 14 (s551 98 16) 98 15 = s551 98 15 := rfl
                  have es553_1 : h_up s551 98 14 (s551 98 16) 98 16 = s551 98 16 := rfl
                  have es553_2 : h_up s551 98 14 (s551 98 16) 98 17 = s551 98 17 := rfl
                  have es553_3 : h_up s551 98 14 (s551 98 16) 98 18 = s551 98 18 := rfl
                  have es553_4 : h_up s551 98 14 (s551 98 16) 98 13 = s551 98 13 := rfl
                  have es553_5 : h_up s551 98 14 (s551 98 16) 98 5 = s551 98 5 := rfl
                  have es553_6 : h_up s551 98 14 (s551 98 16) 98 6 = s551 98 6 := rfl
                  have es553_7 : h_up s551 98 14 (s551 98 16) 101 18 = s551 101 18 := rfl
                  have es553_8 : h_up s551 98 14 (s551 98 16) 101 25 = s551 101 25 := rfl
                  generalize h_up s551 98 14 (s551 98 16) = s553 at Is553 Fs553 es553_0 es553_1 es553_2 es553_3 es553_4 es553_5 es553_6 es553_7 es553_8 ⊢
                  refine h_vret rfl rfl (h_Kn ?_)
                  refine h_aload_n (pc' := 166) rfl rfl rfl ?_
                  refine h_call (sp := false) (pc' := 169) (M := [(0, .ref 98)]) rfl rfl rfl rfl rfl rfl rfl rfl ?_
                  refine v_step _ Is553  (fun s555 Is555 Gs555 ps555_0 ps555_1 ps555_2 => h_Kn ?_)
                  have Fs555 := (Gs555.l1).tr Fs553
                  have es555_5 : s555 98 5 = s553 98 5 := Gs555 98 5 rfl
                  have es555_6 : s555 98 6 = s553 98 6 := Gs555 98 6 rfl
                  have es555_7 : s555 101 18 = s553 101 18 := Gs555 101 18 rfl
                  have es555_8 : s555 101 25 = s553 101 25 := Gs555 101 25 rfl
                  exact h_vret rfl rfl (kk _ Is555 Fs555 (by omega) (by omega))
            · exact h_vret rfl rfl (kk _ Is536 Fs536 (by omega) (by omega))
          · refine h_iload_n (pc' := 115) rfl rfl rfl ?_
            refine h_bipush (pc' := 117) (x := (Int32.ofInt 7)) rfl rfl cb_7 ?_
            refine h_cne (tg := 124) (pc' := 120) rfl rfl rfl hr1 ci_7 (fun c556 => ?_) (fun c556 => absurd c556 (by omega))
            refine h_iconst (pc' := 125) (x := (Int32.ofInt 0)) rfl rfl rfl ?_
            refine h_put (pc' := 128) rfl rfl rfl rfl rfl rfl ci_0 (h_fb ci_0 (by omega)) ?_
            have Is557 : h_I (h_up σ 98 7 0) := (if_98_7 hI (by omega))
            have Fs557 := (F00.up (q := 98) (a := 7) (v := 0) rfl)
            have es557_0 : h_up σ 98 7 0 98 15 = σ 98 15 := rfl
            have es557_1 : h_up σ 98 7 0 98 16 = σ 98 16 := rfl
            have es557_2 : h_up σ 98 7 0 98 17 = σ 98 17 := rfl
            have es557_3 : h_up σ 98 7 0 98 18 = σ 98 18 := rfl
            have es557_4 : h_up σ 98 7 0 98 13 = σ 98 13 := rfl
            have es557_5 : h_up σ 98 7 0 98 5 = σ 98 5 := rfl
            have es557_6 : h_up σ 98 7 0 98 6 = σ 98 6 := rfl
            have es557_7 : h_up σ 98 7 0 101 18 = σ 101 18 := rfl
            have es557_8 : h_up σ 98 7 0 101 25 = σ 101 25 := rfl
            generalize h_up σ 98 7 0 = s557 at Is557 Fs557 es557_0 es557_1 es557_2 es557_3 es557_4 es557_5 es557_6 es557_7 es557_8 ⊢
            refine h_aload_n (pc' := 129) rfl rfl rfl ?_
            refine h_call (sp := false) (pc' := 132) (M := [(0, .ref 98)]) rfl rfl rfl rfl rfl rfl rfl rfl ?_
            refine v_step _ Is557  (fun s559 Is559 Gs559 ps559_0 ps559_1 ps559_2 => h_Kn ?_)
            have Fs559 := (Gs559.l1).tr Fs557
            have es559_5 : s559 98 5 = s557 98 5 := Gs559 98 5 rfl
            have es559_6 : s559 98 6 = s557 98 6 := Gs559 98 6 rfl
            have es559_7 : s559 101 18 = s557 101 18 := Gs559 101 18 rfl
            have es559_8 : s559 101 25 = s557 101 25 := Gs559 101 25 rfl
            refine h_aload_n (pc' := 133) rfl rfl rfl ?_
            refine h_getI (pc' := 136) (v := s559 98 13) rfl rfl rfl rfl rfl rfl (fun z560 hz560 => ?_)
            have tz560 := tf_98_13 Is559
            refine h_zle (tg := 140) (pc' := 139) rfl rfl rfl hz560 (fun c561 => ?_) (fun c561 => ?_)
            · refine h_aload_n (pc' := 141) rfl rfl rfl ?_
              refine h_iload_n (pc' := 142) rfl rfl rfl ?_
              refine h_call (sp := false) (pc' := 145) (M := [(0, .ref 98), (1, .int r1)]) rfl rfl rfl rfl rfl rfl rfl rfl ?_
              refine v_readMore _ Is559 r1 _ hr1 (by omega) (by omega) (by omega) (by omega) (by omega) (fun s563 Is563 Gs563 ps563_0 ps563_1 => h_Kn ?_)
              have Fs563 := (Gs563).tr Fs559
              refine h_aload_n (pc' := 146) rfl rfl rfl ?_
              refine h_getI (pc' := 149) (v := s563 98 13) rfl rfl rfl rfl rfl rfl (fun z564 hz564 => ?_)
              have tz564 := tf_98_13 Is563
              refine h_zne (tg := 165) (pc' := 152) rfl rfl rfl hz564 (fun c565 => ?_) (fun c565 => ?_)
              · refine h_aload_n (pc' := 166) rfl rfl rfl ?_
                refine h_call (sp := false) (pc' := 169) (M := [(0, .ref 98)]) rfl rfl rfl rfl rfl rfl rfl rfl ?_
                refine v_step _ Is563  (fun s567 Is567 Gs567 ps567_0 ps567_1 ps567_2 => h_Kn ?_)
                have Fs567 := (Gs567.l1).tr Fs563
                have es567_5 : s567 98 5 = s563 98 5 := Gs567 98 5 rfl
                have es567_6 : s567 98 6 = s563 98 6 := Gs567 98 6 rfl
                have es567_7 : s567 101 18 = s563 101 18 := Gs567 101 18 rfl
                have es567_8 : s567 101 25 = s563 101 25 := Gs567 101 25 rfl
                exact h_vret rfl rfl (kk _ Is567 Fs567 (by omega) (by omega))
              · refine h_aload_n (pc' := 153) rfl rfl rfl ?_
                refine h_getI (pc' := 156) (v := s563 98 17) rfl rfl rfl rfl rfl rfl (fun z568 hz568 => ?_)
                have tz568 := tf_98_17 Is563
                refine h_iconst (pc' := 157) (x := (Int32.ofInt 3)) rfl rfl rfl ?_
                refine h_ceq (tg := 165) (pc' := 160) rfl rfl rfl hz568 ci_3 (fun c569 => ?_) (fun c569 => ?_)
                · refine h_aload_n (pc' := 166) rfl rfl rfl ?_
                  refine h_call (sp := false) (pc' := 169) (M := [(0, .ref 98)]) rfl rfl rfl rfl rfl rfl rfl rfl ?_
                  refine v_step _ Is563  (fun s571 Is571 Gs571 ps571_0 ps571_1 ps571_2 => h_Kn ?_)
                  have Fs571 := (Gs571.l1).tr Fs563
                  have es571_5 : s571 98 5 = s563 98 5 := Gs571 98 5 rfl
                  have es571_6 : s571 98 6 = s563 98 6 := Gs571 98 6 rfl
                  have es571_7 : s571 101 18 = s563 101 18 := Gs571 101 18 rfl
                  have es571_8 : s571 101 25 = s563 101 25 := Gs571 101 25 rfl
                  exact h_vret rfl rfl (kk _ Is571 Fs571 (by omega) (by omega))
                · refine h_aload_n (pc' := 161) rfl rfl rfl ?_
                  refine h_iconst (pc' := 162) (x := (Int32.ofInt 2)) rfl rfl rfl ?_
                  refine h_call (sp := false) (pc' := 165) (M := [(0, .ref 98), (1, .int (Int32.ofInt 2))]) rfl rfl rfl rfl rfl rfl rfl rfl ?_
                  refine h_aload_n (pc' := 1) rfl rfl rfl ?_
                  refine h_getI (pc' := 4) (v := s563 98 13) rfl rfl rfl rfl rfl rfl (fun z572 hz572 => ?_)
                  have tz572 := tf_98_13 Is563
                  refine h_zne (tg := 20) (pc' := 7) rfl rfl rfl hz572 (fun c573 => absurd c573 (by omega)) (fun c573 => ?_)
                  refine h_aload_n (pc' := 8) rfl rfl rfl ?_
                  refine h_iload_n (pc' := 9) rfl rfl rfl ?_
                  refine h_put (pc' := 12) rfl rfl rfl rfl rfl rfl ci_2 rfl ?_
                  have Is574 : h_I (h_up s563 98 13 2) := (if_98_13 Is563 (by omega))
                  have Fs574 := (Fs563.up (q := 98) (a := 13) (v := 2) rfl)
                  have es574_0 : h_up s563 98 13 2 98 15 = s563 98 15 := rfl
                  have es574_1 : h_up s563 98 13 2 98 16 = s563 98 16 := rfl
                  have es574_2 : h_up s563 98 13 2 98 17 = s563 98 17 := rfl
                  have es574_3 : h_up s563 98 13 2 98 18 = s563 98 18 := rfl
                  have es574_4 : h_up s563 98 13 2 98 13 = 2 := rfl
                  have es574_5 : h_up s563 98 13 2 98 5 = s563 98 5 := rfl
                  have es574_6 : h_up s563 98 13 2 98 6 = s563 98 6 := rfl
                  have es574_7 : h_up s563 98 13 2 101 18 = s563 101 18 := rfl
                  have es574_8 : h_up s563 98 13 2 101 25 = s563 101 25 := rfl
                  generalize h_up s563 98 13 2 = s574 at Is574 Fs574 es574_0 es574_1 es574_2 es574_3 es574_4 es574_5 es574_6 es574_7 es574_8 ⊢
                  refine h_aload_n (pc' := 13) rfl rfl rfl ?_
                  refine h_aload_n (pc' := 14) rfl rfl rfl ?_
                  refine h_getI (pc' := 17) (v := s574 98 16) rfl rfl rfl rfl rfl rfl (fun z575 hz575 => ?_)
                  have tz575 := tf_98_16 Is574
                  refine h_put (pc' := 20) rfl rfl rfl rfl rfl rfl hz575 rfl ?_
                  have Is576 : h_I (h_up s574 98 14 (s574 98 16)) := (if_98_14 Is574 (h_rgv hz575))
                  have Fs576 := (Fs574.up (q := 98) (a := 14) (v := (s574 98 16)) rfl)
                  have es576_0 : h_up s574 98 14 (s574 98 16) 98 15 = s574 98 15 := rfl
                  have es576_1 : h_up s574 98 14 (s574 98 16) 98 16 = s574 98 16 := rfl
                  have es576_2 : h_up s574 98 14 (s574 98 16) 98 17 = s574 98 17 := rfl
                  have es576_3 : h_up s574 98 14 (s574 98 16) 98 18 = s574 98 18 := rfl
                  have es576_4 : h_up s574 98 14 (s574 98 16) 98 13 = s574 98 13 := rfl
                  have es576_5 : h_up s574 98 14 (s574 98 16) 98 5 = s574 98 5 := rfl
                  have es576_6 : h_up s574 98 14 (s574 98 16) 98 6 = s574 98 6 := rfl
                  have es576_7 : h_up s574 98 14 (s574 98 16) 101 18 = s574 101 18 := rfl
                  have es576_8 : h_up s574 98 14 (s574 98 16) 101 25 = s574 101 25 := rfl
                  generalize h_up s574 98 14 (s574 98 16) = s576 at Is576 Fs576 es576_0 es576_1 es576_2 es576_3 es576_4 es576_5 es576_6 es576_7 es576_8 ⊢
                  refine h_vret rfl rfl (h_Kn ?_)
                  refine h_aload_n (pc' := 166) rfl rfl rfl ?_
                  refine h_call (sp := false) (pc' := 169) (M := [(0, .ref 98)]) rfl rfl rfl rfl rfl rfl rfl rfl ?_
                  refine v_step _ Is576  (fun s578 Is578 Gs578 ps578_0 ps578_1 ps578_2 => h_Kn ?_)
                  have Fs578 := (Gs578.l1).tr Fs576
                  have es578_5 : s578 98 5 = s576 98 5 := Gs578 98 5 rfl
                  have es578_6 : s578 98 6 = s576 98 6 := Gs578 98 6 rfl
                  have es578_7 : s578 101 18 = s576 101 18 := Gs578 101 18 rfl
                  have es578_8 : s578 101 25 = s576 101 25 := Gs578 101 25 rfl
                  exact h_vret rfl rfl (kk _ Is578 Fs578 (by omega) (by omega))
            · exact h_vret rfl rfl (kk _ Is559 Fs559 (by omega) (by omega))
    · refine h_aload_n (pc' := 29) rfl rfl rfl ?_
      refine h_getI (pc' := 32) (v := σ 98 5) rfl rfl rfl rfl rfl rfl (fun z579 hz579 => ?_)
      have tz579 := tf_98_5 hI
      refine h_bipush (pc' := 34) (x := (Int32.ofInt 6)) rfl rfl cb_6 ?_
      refine h_ceq (tg := 83) (pc' := 37) rfl rfl rfl hz579 ci_6 (fun c580 => ?_) (fun c580 => ?_)
      · refine h_aload_n (pc' := 84) rfl rfl rfl ?_
        refine h_iconst (pc' := 85) (x := (Int32.ofInt 5)) rfl rfl rfl ?_
        refine h_call (sp := false) (pc' := 88) (M := [(0, .ref 98), (1, .int (Int32.ofInt 5))]) rfl rfl rfl rfl rfl rfl rfl rfl ?_
        refine h_aload_n (pc' := 1) rfl rfl rfl ?_
        refine h_getI (pc' := 4) (v := σ 98 13) rfl rfl rfl rfl rfl rfl (fun z581 hz581 => ?_)
        have tz581 := tf_98_13 hI
        refine h_zne (tg := 20) (pc' := 7) rfl rfl rfl hz581 (fun c582 => ?_) (fun c582 => ?_)
        · refine h_vret rfl rfl (h_Kn ?_)
          refine h_iload_n (pc' := 89) rfl rfl rfl ?_
          refine h_bipush (pc' := 91) (x := (Int32.ofInt 7)) rfl rfl cb_7 ?_
          refine h_cne (tg := 106) (pc' := 94) rfl rfl rfl hr1 ci_7 (fun c583 => ?_) (fun c583 => absurd c583 (by omega))
          refine h_aload_n (pc' := 107) rfl rfl rfl ?_
          refine h_aload_n (pc' := 108) rfl rfl rfl ?_
          refine h_getI (pc' := 111) (v := σ 98 7) rfl rfl rfl rfl rfl rfl (fun z584 hz584 => ?_)
          have tz584 := tf_98_7 hI
          refine h_zne (tg := 120) (pc' := 114) rfl rfl rfl hz584 (fun c585 => ?_) (fun c585 => ?_)
          · refine h_iconst (pc' := 121) (x := (Int32.ofInt 1)) rfl rfl rfl ?_
            refine h_goto (pc' := 125) rfl rfl ?_
            refine h_put (pc' := 128) rfl rfl rfl rfl rfl rfl ci_1 (h_fb ci_1 (by omega)) ?_
            have Is586 : h_I (h_up σ 98 7 1) := (if_98_7 hI (by omega))
            have Fs586 := (F00.up (q := 98) (a := 7) (v := 1) rfl)
            have es586_0 : h_up σ 98 7 1 98 15 = σ 98 15 := rfl
            have es586_1 : h_up σ 98 7 1 98 16 = σ 98 16 := rfl
            have es586_2 : h_up σ 98 7 1 98 17 = σ 98 17 := rfl
            have es586_3 : h_up σ 98 7 1 98 18 = σ 98 18 := rfl
            have es586_4 : h_up σ 98 7 1 98 13 = σ 98 13 := rfl
            have es586_5 : h_up σ 98 7 1 98 5 = σ 98 5 := rfl
            have es586_6 : h_up σ 98 7 1 98 6 = σ 98 6 := rfl
            have es586_7 : h_up σ 98 7 1 101 18 = σ 101 18 := rfl
            have es586_8 : h_up σ 98 7 1 101 25 = σ 101 25 := rfl
            generalize h_up σ 98 7 1 = s586 at Is586 Fs586 es586_0 es586_1 es586_2 es586_3 es586_4 es586_5 es586_6 es586_7 es586_8 ⊢
            refine h_aload_n (pc' := 129) rfl rfl rfl ?_
            refine h_call (sp := false) (pc' := 132) (M := [(0, .ref 98)]) rfl rfl rfl rfl rfl rfl rfl rfl ?_
            refine v_step _ Is586  (fun s588 Is588 Gs588 ps588_0 ps588_1 ps588_2 => h_Kn ?_)
            have Fs588 := (Gs588.l1).tr Fs586
            have es588_5 : s588 98 5 = s586 98 5 := Gs588 98 5 rfl
            have es588_6 : s588 98 6 = s586 98 6 := Gs588 98 6 rfl
            have es588_7 : s588 101 18 = s586 101 18 := Gs588 101 18 rfl
            have es588_8 : s588 101 25 = s586 101 25 := Gs588 101 25 rfl
            refine h_aload_n (pc' := 133) rfl rfl rfl ?_
            refine h_getI (pc' := 136) (v := s588 98 13) rfl rfl rfl rfl rfl rfl (fun z589 hz589 => ?_)
            have tz589 := tf_98_13 Is588
            refine h_zle (tg := 140) (pc' := 139) rfl rfl rfl hz589 (fun c590 => ?_) (fun c590 => ?_)
            · refine h_aload_n (pc' := 141) rfl rfl rfl ?_
              refine h_iload_n (pc' := 142) rfl rfl rfl ?_
              refine h_call (sp := false) (pc' := 145) (M := [(0, .ref 98), (1, .int r1)]) rfl rfl rfl rfl rfl rfl rfl rfl ?_
              refine v_readMore _ Is588 r1 _ hr1 (by omega) (by omega) (by omega) (by omega) (by omega) (fun s592 Is592 Gs592 ps592_0 ps592_1 => h_Kn ?_)
              have Fs592 := (Gs592).tr Fs588
              refine h_aload_n (pc' := 146) rfl rfl rfl ?_
              refine h_getI (pc' := 149) (v := s592 98 13) rfl rfl rfl rfl rfl rfl (fun z593 hz593 => ?_)
              have tz593 := tf_98_13 Is592
              refine h_zne (tg := 165) (pc' := 152) rfl rfl rfl hz593 (fun c594 => ?_) (fun c594 => ?_)
              · refine h_aload_n (pc' := 166) rfl rfl rfl ?_
                refine h_call (sp := false) (pc' := 169) (M := [(0, .ref 98)]) rfl rfl rfl rfl rfl rfl rfl rfl ?_
                refine v_step _ Is592  (fun s596 Is596 Gs596 ps596_0 ps596_1 ps596_2 => h_Kn ?_)
                have Fs596 := (Gs596.l1).tr Fs592
                have es596_5 : s596 98 5 = s592 98 5 := Gs596 98 5 rfl
                have es596_6 : s596 98 6 = s592 98 6 := Gs596 98 6 rfl
                have es596_7 : s596 101 18 = s592 101 18 := Gs596 101 18 rfl
                have es596_8 : s596 101 25 = s592 101 25 := Gs596 101 25 rfl
                exact h_vret rfl rfl (kk _ Is596 Fs596 (by omega) (by omega))
              · refine h_aload_n (pc' := 153) rfl rfl rfl ?_
                refine h_getI (pc' := 156) (v := s592 98 17) rfl rfl rfl rfl rfl rfl (fun z597 hz597 => ?_)
                have tz597 := tf_98_17 Is592
                refine h_iconst (pc' := 157) (x := (Int32.ofInt 3)) rfl rfl rfl ?_
                refine h_ceq (tg := 165) (pc' := 160) rfl rfl rfl hz597 ci_3 (fun c598 => ?_) (fun c598 => ?_)
                · refine h_aload_n (pc' := 166) rfl rfl rfl ?_
                  refine h_call (sp := false) (pc' := 169) (M := [(0, .ref 98)]) rfl rfl rfl rfl rfl rfl rfl rfl ?_
                  refine v_step _ Is592  (fun s600 Is600 Gs600 ps600_0 ps600_1 ps600_2 => h_Kn ?_)
                  have Fs600 := (Gs600.l1).tr Fs592
                  have es600_5 : s600 98 5 = s592 98 5 := Gs600 98 5 rfl
                  have es600_6 : s600 98 6 = s592 98 6 := Gs600 98 6 rfl
                  have es600_7 : s600 101 18 = s592 101 18 := Gs600 101 18 rfl
                  have es600_8 : s600 101 25 = s592 101 25 := Gs600 101 25 rfl
                  exact h_vret rfl rfl (kk _ Is600 Fs600 (by omega) (by omega))
                · refine h_aload_n (pc' := 161) rfl rfl rfl ?_
                  refine h_iconst (pc' := 162) (x := (Int32.ofInt 2)) rfl rfl rfl ?_
                  refine h_call (sp := false) (pc' := 165) (M := [(0, .ref 98), (1, .int (Int32.ofInt 2))]) rfl rfl rfl rfl rfl rfl rfl rfl ?_
                  refine h_aload_n (pc' := 1) rfl rfl rfl ?_
                  refine h_getI (pc' := 4) (v := s592 98 13) rfl rfl rfl rfl rfl rfl (fun z601 hz601 => ?_)
                  have tz601 := tf_98_13 Is592
                  refine h_zne (tg := 20) (pc' := 7) rfl rfl rfl hz601 (fun c602 => absurd c602 (by omega)) (fun c602 => ?_)
                  refine h_aload_n (pc' := 8) rfl rfl rfl ?_
                  refine h_iload_n (pc' := 9) rfl rfl rfl ?_
                  refine h_put (pc' := 12) rfl rfl rfl rfl rfl rfl ci_2 rfl ?_
                  have Is603 : h_I (h_up s592 98 13 2) := (if_98_13 Is592 (by omega))
                  have Fs603 := (Fs592.up (q := 98) (a := 13) (v := 2) rfl)
                  have es603_0 : h_up s592 98 13 2 98 15 = s592 98 15 := rfl
                  have es603_1 : h_up s592 98 13 2 98 16 = s592 98 16 := rfl
                  have es603_2 : h_up s592 98 13 2 98 17 = s592 98 17 := rfl
                  have es603_3 : h_up s592 98 13 2 98 18 = s592 98 18 := rfl
                  have es603_4 : h_up s592 98 13 2 98 13 = 2 := rfl
                  have es603_5 : h_up s592 98 13 2 98 5 = s592 98 5 := rfl
                  have es603_6 : h_up s592 98 13 2 98 6 = s592 98 6 := rfl
                  have es603_7 : h_up s592 98 13 2 101 18 = s592 101 18 := rfl
                  have es603_8 : h_up s592 98 13 2 101 25 = s592 101 25 := rfl
                  generalize h_up s592 98 13 2 = s603 at Is603 Fs603 es603_0 es603_1 es603_2 es603_3 es603_4 es603_5 es603_6 es603_7 es603_8 ⊢
                  refine h_aload_n (pc' := 13) rfl rfl rfl ?_
                  refine h_aload_n (pc' := 14) rfl rfl rfl ?_
                  refine h_getI (pc' := 17) (v := s603 98 16) rfl rfl rfl rfl rfl rfl (fun z604 hz604 => ?_)
                  have tz604 := tf_98_16 Is603
                  refine h_put (pc' := 20) rfl rfl rfl rfl rfl rfl hz604 rfl ?_
                  have Is605 : h_I (h_up s603 98 14 (s603 98 16)) := (if_98_14 Is603 (h_rgv hz604))
                  have Fs605 := (Fs603.up (q := 98) (a := 14) (v := (s603 98 16)) rfl)
                  have es605_0 : h_up s603 98 14 (s603 98 16) 98 15 = s603 98 15 := rfl
                  have es605_1 : h_up s603 98 14 (s603 98 16) 98 16 = s603 98 16 := rfl
                  have es605_2 : h_up s603 98 14 (s603 98 16) 98 17 = s603 98 17 := rfl
                  have es605_3 : h_up s603 98 14 (s603 98 16) 98 18 = s603 98 18 := rfl
                  have es605_4 : h_up s603 98 14 (s603 98 16) 98 13 = s603 98 13 := rfl
                  have es605_5 : h_up s603 98 14 (s603 98 16) 98 5 = s603 98 5 := rfl
                  have es605_6 : h_up s603 98 14 (s603 98 16) 98 6 = s603 98 6 := rfl
                  have es605_7 : h_up s603 98 14 (s603 98 16) 101 18 = s603 101 18 := rfl
                  have es605_8 : h_up s603 98 14 (s603 98 16) 101 25 = s603 101 25 := rfl
                  generalize h_up s603 98 14 (s603 98 16) = s605 at Is605 Fs605 es605_0 es605_1 es605_2 es605_3 es605_4 es605_5 es605_6 es605_7 es605_8 ⊢
                  refine h_vret rfl rfl (h_Kn ?_)
                  refine h_aload_n (pc' := 166) rfl rfl rfl ?_
                  refine h_call (sp := false) (pc' := 169) (M := [(0, .ref 98)]) rfl rfl rfl rfl rfl rfl rfl rfl ?_
                  refine v_step _ Is605  (fun s607 Is607 Gs607 ps607_0 ps607_1 ps607_2 => h_Kn ?_)
                  have Fs607 := (Gs607.l1).tr Fs605
                  have es607_5 : s607 98 5 = s605 98 5 := Gs607 98 5 rfl
                  have es607_6 : s607 98 6 = s605 98 6 := Gs607 98 6 rfl
                  have es607_7 : s607 101 18 = s605 101 18 := Gs607 101 18 rfl
                  have es607_8 : s607 101 25 = s605 101 25 := Gs607 101 25 rfl
                  exact h_vret rfl rfl (kk _ Is607 Fs607 (by omega) (by omega))
            · exact h_vret rfl rfl (kk _ Is588 Fs588 (by omega) (by omega))
          · refine h_iload_n (pc' := 115) rfl rfl rfl ?_
            refine h_bipush (pc' := 117) (x := (Int32.ofInt 7)) rfl rfl cb_7 ?_
            refine h_cne (tg := 124) (pc' := 120) rfl rfl rfl hr1 ci_7 (fun c608 => ?_) (fun c608 => absurd c608 (by omega))
            refine h_iconst (pc' := 125) (x := (Int32.ofInt 0)) rfl rfl rfl ?_
            refine h_put (pc' := 128) rfl rfl rfl rfl rfl rfl ci_0 (h_fb ci_0 (by omega)) ?_
            have Is609 : h_I (h_up σ 98 7 0) := (if_98_7 hI (by omega))
            have Fs609 := (F00.up (q := 98) (a := 7) (v := 0) rfl)
            have es609_0 : h_up σ 98 7 0 98 15 = σ 98 15 := rfl
            have es609_1 : h_up σ 98 7 0 98 16 = σ 98 16 := rfl
            have es609_2 : h_up σ 98 7 0 98 17 = σ 98 17 := rfl
            have es609_3 : h_up σ 98 7 0 98 18 = σ 98 18 := rfl
            have es609_4 : h_up σ 98 7 0 98 13 = σ 98 13 := rfl
            have es609_5 : h_up σ 98 7 0 98 5 = σ 98 5 := rfl
            have es609_6 : h_up σ 98 7 0 98 6 = σ 98 6 := rfl
            have es609_7 : h_up σ 98 7 0 101 18 = σ 101 18 := rfl
            have es609_8 : h_up σ 98 7 0 101 25 = σ 101 25 := rfl
            generalize h_up σ 98 7 0 = s609 at Is609 Fs609 es609_0 es609_1 es609_2 es609_3 es609_4 es609_5 es609_6 es609_7 es609_8 ⊢
            refine h_aload_n (pc' := 129) rfl rfl rfl ?_
            refine h_call (sp := false) (pc' := 132) (M := [(0, .ref 98)]) rfl rfl rfl rfl rfl rfl rfl rfl ?_
            refine v_step _ Is609  (fun s611 Is611 Gs611 ps611_0 ps611_1 ps611_2 => h_Kn ?_)
            have Fs611 := (Gs611.l1).tr Fs609
            have es611_5 : s611 98 5 = s609 98 5 := Gs611 98 5 rfl
            have es611_6 : s611 98 6 = s609 98 6 := Gs611 98 6 rfl
            have es611_7 : s611 101 18 = s609 101 18 := Gs611 101 18 rfl
            have es611_8 : s611 101 25 = s609 101 25 := Gs611 101 25 rfl
            refine h_aload_n (pc' := 133) rfl rfl rfl ?_
            refine h_getI (pc' := 136) (v := s611 98 13) rfl rfl rfl rfl rfl rfl (fun z612 hz612 => ?_)
            have tz612 := tf_98_13 Is611
            refine h_zle (tg := 140) (pc' := 139) rfl rfl rfl hz612 (fun c613 => ?_) (fun c613 => ?_)
            · refine h_aload_n (pc' := 141) rfl rfl rfl ?_
              refine h_iload_n (pc' := 142) rfl rfl rfl ?_
              refine h_call (sp := false) (pc' := 145) (M := [(0, .ref 98), (1, .int r1)]) rfl rfl rfl rfl rfl rfl rfl rfl ?_
              refine v_readMore _ Is611 r1 _ hr1 (by omega) (by omega) (by omega) (by omega) (by omega) (fun s615 Is615 Gs615 ps615_0 ps615_1 => h_Kn ?_)
              have Fs615 := (Gs615).tr Fs611
              refine h_aload_n (pc' := 146) rfl rfl rfl ?_
              refine h_getI (pc' := 149) (v := s615 98 13) rfl rfl rfl rfl rfl rfl (fun z616 hz616 => ?_)
              have tz616 := tf_98_13 Is615
              refine h_zne (tg := 165) (pc' := 152) rfl rfl rfl hz616 (fun c617 => ?_) (fun c617 => ?_)
              · refine h_aload_n (pc' := 166) rfl rfl rfl ?_
                refine h_call (sp := false) (pc' := 169) (M := [(0, .ref 98)]) rfl rfl rfl rfl rfl rfl rfl rfl ?_
                refine v_step _ Is615  (fun s619 Is619 Gs619 ps619_0 ps619_1 ps619_2 => h_Kn ?_)
                have Fs619 := (Gs619.l1).tr Fs615
                have es619_5 : s619 98 5 = s615 98 5 := Gs619 98 5 rfl
                have es619_6 : s619 98 6 = s615 98 6 := Gs619 98 6 rfl
                have es619_7 : s619 101 18 = s615 101 18 := Gs619 101 18 rfl
                have es619_8 : s619 101 25 = s615 101 25 := Gs619 101 25 rfl
                exact h_vret rfl rfl (kk _ Is619 Fs619 (by omega) (by omega))
              · refine h_aload_n (pc' := 153) rfl rfl rfl ?_
                refine h_getI (pc' := 156) (v := s615 98 17) rfl rfl rfl rfl rfl rfl (fun z620 hz620 => ?_)
                have tz620 := tf_98_17 Is615
                refine h_iconst (pc' := 157) (x := (Int32.ofInt 3)) rfl rfl rfl ?_
                refine h_ceq (tg := 165) (pc' := 160) rfl rfl rfl hz620 ci_3 (fun c621 => ?_) (fun c621 => ?_)
                · refine h_aload_n (pc' := 166) rfl rfl rfl ?_
                  refine h_call (sp := false) (pc' := 169) (M := [(0, .ref 98)]) rfl rfl rfl rfl rfl rfl rfl rfl ?_
                  refine v_step _ Is615  (fun s623 Is623 Gs623 ps623_0 ps623_1 ps623_2 => h_Kn ?_)
                  have Fs623 := (Gs623.l1).tr Fs615
                  have es623_5 : s623 98 5 = s615 98 5 := Gs623 98 5 rfl
                  have es623_6 : s623 98 6 = s615 98 6 := Gs623 98 6 rfl
                  have es623_7 : s623 101 18 = s615 101 18 := Gs623 101 18 rfl
                  have es623_8 : s623 101 25 = s615 101 25 := Gs623 101 25 rfl
                  exact h_vret rfl rfl (kk _ Is623 Fs623 (by omega) (by omega))
                · refine h_aload_n (pc' := 161) rfl rfl rfl ?_
                  refine h_iconst (pc' := 162) (x := (Int32.ofInt 2)) rfl rfl rfl ?_
                  refine h_call (sp := false) (pc' := 165) (M := [(0, .ref 98), (1, .int (Int32.ofInt 2))]) rfl rfl rfl rfl rfl rfl rfl rfl ?_
                  refine h_aload_n (pc' := 1) rfl rfl rfl ?_
                  refine h_getI (pc' := 4) (v := s615 98 13) rfl rfl rfl rfl rfl rfl (fun z624 hz624 => ?_)
                  have tz624 := tf_98_13 Is615
                  refine h_zne (tg := 20) (pc' := 7) rfl rfl rfl hz624 (fun c625 => absurd c625 (by omega)) (fun c625 => ?_)
                  refine h_aload_n (pc' := 8) rfl rfl rfl ?_
                  refine h_iload_n (pc' := 9) rfl rfl rfl ?_
                  refine h_put (pc' := 12) rfl rfl rfl rfl rfl rfl ci_2 rfl ?_
                  have Is626 : h_I (h_up s615 98 13 2) := (if_98_13 Is615 (by omega))
                  have Fs626 := (Fs615.up (q := 98) (a := 13) (v := 2) rfl)
                  have es626_0 : h_up s615 98 13 2 98 15 = s615 98 15 := rfl
                  have es626_1 : h_up s615 98 13 2 98 16 = s615 98 16 := rfl
                  have es626_2 : h_up s615 98 13 2 98 17 = s615 98 17 := rfl
                  have es626_3 : h_up s615 98 13 2 98 18 = s615 98 18 := rfl
                  have es626_4 : h_up s615 98 13 2 98 13 = 2 := rfl
                  have es626_5 : h_up s615 98 13 2 98 5 = s615 98 5 := rfl
                  have es626_6 : h_up s615 98 13 2 98 6 = s615 98 6 := rfl
                  have es626_7 : h_up s615 98 13 2 101 18 = s615 101 18 := rfl
                  have es626_8 : h_up s615 98 13 2 101 25 = s615 101 25 := rfl
                  generalize h_up s615 98 13 2 = s626 at Is626 Fs626 es626_0 es626_1 es626_2 es626_3 es626_4 es626_5 es626_6 es626_7 es626_8 ⊢
                  refine h_aload_n (pc' := 13) rfl rfl rfl ?_
                  refine h_aload_n (pc' := 14) rfl rfl rfl ?_
                  refine h_getI (pc' := 17) (v := s626 98 16) rfl rfl rfl rfl rfl rfl (fun z627 hz627 => ?_)
                  have tz627 := tf_98_16 Is626
                  refine h_put (pc' := 20) rfl rfl rfl rfl rfl rfl hz627 rfl ?_
                  have Is628 : h_I (h_up s626 98 14 (s626 98 16)) := (if_98_14 Is626 (h_rgv hz627))
                  have Fs628 := (Fs626.up (q := 98) (a := 14) (v := (s626 98 16)) rfl)
                  have es628_0 : h_up s626 98 14 (s626 98 16) 98 15 = s626 98 15 := rfl
                  have es628_1 : h_up s626 98 14 (s626 98 16) 98 16 = s626 98 16 := rfl
                  have es628_2 : h_up s626 98 14 (s626 98 16) 98 17 = s626 98 17 := rfl
                  have es628_3 : h_up s626 98 14 (s626 98 16) 98 18 = s626 98 18 := rfl
                  have es628_4 : h_up s626 98 14 (s626 98 16) 98 13 = s626 98 13 := rfl
                  have es628_5 : h_up s626 98 14 (s626 98 16) 98 5 = s626 98 5 := rfl
                  have es628_6 : h_up s626 98 14 (s626 98 16) 98 6 = s626 98 6 := rfl
                  have es628_7 : h_up s626 98 14 (s626 98 16) 101 18 = s626 101 18 := rfl
                  have es628_8 : h_up s626 98 14 (s626 98 16) 101 25 = s626 101 25 := rfl
                  generalize h_up s626 98 14 (s626 98 16) = s628 at Is628 Fs628 es628_0 es628_1 es628_2 es628_3 es628_4 es628_5 es628_6 es628_7 es628_8 ⊢
                  refine h_vret rfl rfl (h_Kn ?_)
                  refine h_aload_n (pc' := 166) rfl rfl rfl ?_
                  refine h_call (sp := false) (pc' := 169) (M := [(0, .ref 98)]) rfl rfl rfl rfl rfl rfl rfl rfl ?_
                  refine v_step _ Is628  (fun s630 Is630 Gs630 ps630_0 ps630_1 ps630_2 => h_Kn ?_)
                  have Fs630 := (Gs630.l1).tr Fs628
                  have es630_5 : s630 98 5 = s628 98 5 := Gs630 98 5 rfl
                  have es630_6 : s630 98 6 = s628 98 6 := Gs630 98 6 rfl
                  have es630_7 : s630 101 18 = s628 101 18 := Gs630 101 18 rfl
                  have es630_8 : s630 101 25 = s628 101 25 := Gs630 101 25 rfl
                  exact h_vret rfl rfl (kk _ Is630 Fs630 (by omega) (by omega))
            · exact h_vret rfl rfl (kk _ Is611 Fs611 (by omega) (by omega))
        · refine h_aload_n (pc' := 8) rfl rfl rfl ?_
          refine h_iload_n (pc' := 9) rfl rfl rfl ?_
          refine h_put (pc' := 12) rfl rfl rfl rfl rfl rfl ci_5 rfl ?_
          have Is631 : h_I (h_up σ 98 13 5) := (if_98_13 hI (by omega))
          have Fs631 := (F00.up (q := 98) (a := 13) (v := 5) rfl)
          have es631_0 : h_up σ 98 13 5 98 15 = σ 98 15 := rfl
          have es631_1 : h_up σ 98 13 5 98 16 = σ 98 16 := rfl
          have es631_2 : h_up σ 98 13 5 98 17 = σ 98 17 := rfl
          have es631_3 : h_up σ 98 13 5 98 18 = σ 98 18 := rfl
          have es631_4 : h_up σ 98 13 5 98 13 = 5 := rfl
          have es631_5 : h_up σ 98 13 5 98 5 = σ 98 5 := rfl
          have es631_6 : h_up σ 98 13 5 98 6 = σ 98 6 := rfl
          have es631_7 : h_up σ 98 13 5 101 18 = σ 101 18 := rfl
          have es631_8 : h_up σ 98 13 5 101 25 = σ 101 25 := rfl
          generalize h_up σ 98 13 5 = s631 at Is631 Fs631 es631_0 es631_1 es631_2 es631_3 es631_4 es631_5 es631_6 es631_7 es631_8 ⊢
          refine h_aload_n (pc' := 13) rfl rfl rfl ?_
          refine h_aload_n (pc' := 14) rfl rfl rfl ?_
          refine h_getI (pc' := 17) (v := s631 98 16) rfl rfl rfl rfl rfl rfl (fun z632 hz632 => ?_)
          have tz632 := tf_98_16 Is631
          refine h_put (pc' := 20) rfl rfl rfl rfl rfl rfl hz632 rfl ?_
          have Is633 : h_I (h_up s631 98 14 (s631 98 16)) := (if_98_14 Is631 (h_rgv hz632))
          have Fs633 := (Fs631.up (q := 98) (a := 14) (v := (s631 98 16)) rfl)
          have es633_0 : h_up s631 98 14 (s631 98 16) 98 15 = s631 98 15 := rfl
          have es633_1 : h_up s631 98 14 (s631 98 16) 98 16 = s631 98 16 := rfl
          have es633_2 : h_up s631 98 14 (s631 98 16) 98 17 = s631 98 17 := rfl
          have es633_3 : h_up s631 98 14 (s631 98 16) 98 18 = s631 98 18 := rfl
          have es633_4 : h_up s631 98 14 (s631 98 16) 98 13 = s631 98 13 := rfl
          have es633_5 : h_up s631 98 14 (s631 98 16) 98 5 = s631 98 5 := rfl
          have es633_6 : h_up s631 98 14 (s631 98 16) 98 6 = s631 98 6 := rfl
          have es633_7 : h_up s631 98 14 (s631 98 16) 101 18 = s631 101 18 := rfl
          have es633_8 : h_up s631 98 14 (s631 98 16) 101 25 = s631 101 25 := rfl
          generalize h_up s631 98 14 (s631 98 16) = s633 at Is633 Fs633 es633_0 es633_1 es633_2 es633_3 es633_4 es633_5 es633_6 es633_7 es633_8 ⊢
          refine h_vret rfl rfl (h_Kn ?_)
          refine h_iload_n (pc' := 89) rfl rfl rfl ?_
          refine h_bipush (pc' := 91) (x := (Int32.ofInt 7)) rfl rfl cb_7 ?_
          refine h_cne (tg := 106) (pc' := 94) rfl rfl rfl hr1 ci_7 (fun c634 => ?_) (fun c634 => absurd c634 (by omega))
          refine h_aload_n (pc' := 107) rfl rfl rfl ?_
          refine h_aload_n (pc' := 108) rfl rfl rfl ?_
          refine h_getI (pc' := 111) (v := s633 98 7) rfl rfl rfl rfl rfl rfl (fun z635 hz635 => ?_)
          have tz635 := tf_98_7 Is633
          refine h_zne (tg := 120) (pc' := 114) rfl rfl rfl hz635 (fun c636 => ?_) (fun c636 => ?_)
          · refine h_iconst (pc' := 121) (x := (Int32.ofInt 1)) rfl rfl rfl ?_
            refine h_goto (pc' := 125) rfl rfl ?_
            refine h_put (pc' := 128) rfl rfl rfl rfl rfl rfl ci_1 (h_fb ci_1 (by omega)) ?_
            have Is637 : h_I (h_up s633 98 7 1) := (if_98_7 Is633 (by omega))
            have Fs637 := (Fs633.up (q := 98) (a := 7) (v := 1) rfl)
            have es637_0 : h_up s633 98 7 1 98 15 = s633 98 15 := rfl
            have es637_1 : h_up s633 98 7 1 98 16 = s633 98 16 := rfl
            have es637_2 : h_up s633 98 7 1 98 17 = s633 98 17 := rfl
            have es637_3 : h_up s633 98 7 1 98 18 = s633 98 18 := rfl
            have es637_4 : h_up s633 98 7 1 98 13 = s633 98 13 := rfl
            have es637_5 : h_up s633 98 7 1 98 5 = s633 98 5 := rfl
            have es637_6 : h_up s633 98 7 1 98 6 = s633 98 6 := rfl
            have es637_7 : h_up s633 98 7 1 101 18 = s633 101 18 := rfl
            have es637_8 : h_up s633 98 7 1 101 25 = s633 101 25 := rfl
            generalize h_up s633 98 7 1 = s637 at Is637 Fs637 es637_0 es637_1 es637_2 es637_3 es637_4 es637_5 es637_6 es637_7 es637_8 ⊢
            refine h_aload_n (pc' := 129) rfl rfl rfl ?_
            refine h_call (sp := false) (pc' := 132) (M := [(0, .ref 98)]) rfl rfl rfl rfl rfl rfl rfl rfl ?_
            refine v_step _ Is637  (fun s639 Is639 Gs639 ps639_0 ps639_1 ps639_2 => h_Kn ?_)
            have Fs639 := (Gs639.l1).tr Fs637
            have es639_5 : s639 98 5 = s637 98 5 := Gs639 98 5 rfl
            have es639_6 : s639 98 6 = s637 98 6 := Gs639 98 6 rfl
            have es639_7 : s639 101 18 = s637 101 18 := Gs639 101 18 rfl
            have es639_8 : s639 101 25 = s637 101 25 := Gs639 101 25 rfl
            refine h_aload_n (pc' := 133) rfl rfl rfl ?_
            refine h_getI (pc' := 136) (v := s639 98 13) rfl rfl rfl rfl rfl rfl (fun z640 hz640 => ?_)
            have tz640 := tf_98_13 Is639
            refine h_zle (tg := 140) (pc' := 139) rfl rfl rfl hz640 (fun c641 => ?_) (fun c641 => ?_)
            · refine h_aload_n (pc' := 141) rfl rfl rfl ?_
              refine h_iload_n (pc' := 142) rfl rfl rfl ?_
              refine h_call (sp := false) (pc' := 145) (M := [(0, .ref 98), (1, .int r1)]) rfl rfl rfl rfl rfl rfl rfl rfl ?_
              refine v_readMore _ Is639 r1 _ hr1 (by omega) (by omega) (by omega) (by omega) (by omega) (fun s643 Is643 Gs643 ps643_0 ps643_1 => h_Kn ?_)
              have Fs643 := (Gs643).tr Fs639
              refine h_aload_n (pc' := 146) rfl rfl rfl ?_
              refine h_getI (pc' := 149) (v := s643 98 13) rfl rfl rfl rfl rfl rfl (fun z644 hz644 => ?_)
              have tz644 := tf_98_13 Is643
              refine h_zne (tg := 165) (pc' := 152) rfl rfl rfl hz644 (fun c645 => ?_) (fun c645 => ?_)
              · refine h_aload_n (pc' := 166) rfl rfl rfl ?_
                refine h_call (sp := false) (pc' := 169) (M := [(0, .ref 98)]) rfl rfl rfl rfl rfl rfl rfl rfl ?_
                refine v_step _ Is643  (fun s647 Is647 Gs647 ps647_0 ps647_1 ps647_2 => h_Kn ?_)
                have Fs647 := (Gs647.l1).tr Fs643
                have es647_5 : s647 98 5 = s643 98 5 := Gs647 98 5 rfl
                have es647_6 : s647 98 6 = s643 98 6 := Gs647 98 6 rfl
                have es647_7 : s647 101 18 = s643 101 18 := Gs647 101 18 rfl
                have es647_8 : s647 101 25 = s643 101 25 := Gs647 101 25 rfl
                exact h_vret rfl rfl (kk _ Is647 Fs647 (by omega) (by omega))
              · refine h_aload_n (pc' := 153) rfl rfl rfl ?_
                refine h_getI (pc' := 156) (v := s643 98 17) rfl rfl rfl rfl rfl rfl (fun z648 hz648 => ?_)
                have tz648 := tf_98_17 Is643
                refine h_iconst (pc' := 157) (x := (Int32.ofInt 3)) rfl rfl rfl ?_
                refine h_ceq (tg := 165) (pc' := 160) rfl rfl rfl hz648 ci_3 (fun c649 => ?_) (fun c649 => ?_)
                · refine h_aload_n (pc' := 166) rfl rfl rfl ?_
                  refine h_call (sp := false) (pc' := 169) (M := [(0, .ref 98)]) rfl rfl rfl rfl rfl rfl rfl rfl ?_
                  refine v_step _ Is643  (fun s651 Is651 Gs651 ps651_0 ps651_1 ps651_2 => h_Kn ?_)
                  have Fs651 := (Gs651.l1).tr Fs643
                  have es651_5 : s651 98 5 = s643 98 5 := Gs651 98 5 rfl
                  have es651_6 : s651 98 6 = s643 98 6 := Gs651 98 6 rfl
                  have es651_7 : s651 101 18 = s643 101 18 := Gs651 101 18 rfl
                  have es651_8 : s651 101 25 = s643 101 25 := Gs651 101 25 rfl
                  exact h_vret rfl rfl (kk _ Is651 Fs651 (by omega) (by omega))
                · refine h_aload_n (pc' := 161) rfl rfl rfl ?_
                  refine h_iconst (pc' := 162) (x := (Int32.ofInt 2)) rfl rfl rfl ?_
                  refine h_call (sp := false) (pc' := 165) (M := [(0, .ref 98), (1, .int (Int32.ofInt 2))]) rfl rfl rfl rfl rfl rfl rfl rfl ?_
                  refine h_aload_n (pc' := 1) rfl rfl rfl ?_
                  refine h_getI (pc' := 4) (v := s643 98 13) rfl rfl rfl rfl rfl rfl (fun z652 hz652 => ?_)
                  have tz652 := tf_98_13 Is643
                  refine h_zne (tg := 20) (pc' := 7) rfl rfl rfl hz652 (fun c653 => absurd c653 (by omega)) (fun c653 => ?_)
                  refine h_aload_n (pc' := 8) rfl rfl rfl ?_
                  refine h_iload_n (pc' := 9) rfl rfl rfl ?_
                  refine h_put (pc' := 12) rfl rfl rfl rfl rfl rfl ci_2 rfl ?_
                  have Is654 : h_I (h_up s643 98 13 2) := (if_98_13 Is643 (by omega))
                  have Fs654 := (Fs643.up (q := 98) (a := 13) (v := 2) rfl)
                  have es654_0 : h_up s643 98 13 2 98 15 = s643 98 15 := rfl
                  have es654_1 : h_up s643 98 13 2 98 16 = s643 98 16 := rfl
                  have es654_2 : h_up s643 98 13 2 98 17 = s643 98 17 := rfl
                  have es654_3 : h_up s643 98 13 2 98 18 = s643 98 18 := rfl
                  have es654_4 : h_up s643 98 13 2 98 13 = 2 := rfl
                  have es654_5 : h_up s643 98 13 2 98 5 = s643 98 5 := rfl
                  have es654_6 : h_up s643 98 13 2 98 6 = s643 98 6 := rfl
                  have es654_7 : h_up s643 98 13 2 101 18 = s643 101 18 := rfl
                  have es654_8 : h_up s643 98 13 2 101 25 = s643 101 25 := rfl
                  generalize h_up s643 98 13 2 = s654 at Is654 Fs654 es654_0 es654_1 es654_2 es654_3 es654_4 es654_5 es654_6 es654_7 es654_8 ⊢
                  refine h_aload_n (pc' := 13) rfl rfl rfl ?_
                  refine h_aload_n (pc' := 14) rfl rfl rfl ?_
                  refine h_getI (pc' := 17) (v := s654 98 16) rfl rfl rfl rfl rfl rfl (fun z655 hz655 => ?_)
                  have tz655 := tf_98_16 Is654
                  refine h_put (pc' := 20) rfl rfl rfl rfl rfl rfl hz655 rfl ?_
                  have Is656 : h_I (h_up s654 98 14 (s654 98 16)) := (if_98_14 Is654 (h_rgv hz655))
                  have Fs656 := (Fs654.up (q := 98) (a := 14) (v := (s654 98 16)) rfl)
                  have es656_0 : h_up s654 98 14 (s654 98 16) 98 15 = s654 98 15 := rfl
                  have es656_1 : h_up s654 98 14 (s654 98 16) 98 16 = s654 98 16 := rfl
                  have es656_2 : h_up s654 98 14 (s654 98 16) 98 17 = s654 98 17 := rfl
                  have es656_3 : h_up s654 98 14 (s654 98 16) 98 18 = s654 98 18 := rfl
                  have es656_4 : h_up s654 98 14 (s654 98 16) 98 13 = s654 98 13 := rfl
                  have es656_5 : h_up s654 98 14 (s654 98 16) 98 5 = s654 98 5 := rfl
                  have es656_6 : h_up s654 98 14 (s654 98 16) 98 6 = s654 98 6 := rfl
                  have es656_7 : h_up s654 98 14 (s654 98 16) 101 18 = s654 101 18 := rfl
                  have es656_8 : h_up s654 98 14 (s654 98 16) 101 25 = s654 101 25 := rfl
                  generalize h_up s654 98 14 (s654 98 16) = s656 at Is656 Fs656 es656_0 es656_1 es656_2 es656_3 es656_4 es656_5 es656_6 es656_7 es656_8 ⊢
                  refine h_vret rfl rfl (h_Kn ?_)
                  refine h_aload_n (pc' := 166) rfl rfl rfl ?_
                  refine h_call (sp := false) (pc' := 169) (M := [(0, .ref 98)]) rfl rfl rfl rfl rfl rfl rfl rfl ?_
                  refine v_step _ Is656  (fun s658 Is658 Gs658 ps658_0 ps658_1 ps658_2 => h_Kn ?_)
                  have Fs658 := (Gs658.l1).tr Fs656
                  have es658_5 : s658 98 5 = s656 98 5 := Gs658 98 5 rfl
                  have es658_6 : s658 98 6 = s656 98 6 := Gs658 98 6 rfl
                  have es658_7 : s658 101 18 = s656 101 18 := Gs658 101 18 rfl
                  have es658_8 : s658 101 25 = s656 101 25 := Gs658 101 25 rfl
                  exact h_vret rfl rfl (kk _ Is658 Fs658 (by omega) (by omega))
            · exact h_vret rfl rfl (kk _ Is639 Fs639 (by omega) (by omega))
          · refine h_iload_n (pc' := 115) rfl rfl rfl ?_
            refine h_bipush (pc' := 117) (x := (Int32.ofInt 7)) rfl rfl cb_7 ?_
            refine h_cne (tg := 124) (pc' := 120) rfl rfl rfl hr1 ci_7 (fun c659 => ?_) (fun c659 => absurd c659 (by omega))
            refine h_iconst (pc' := 125) (x := (Int32.ofInt 0)) rfl rfl rfl ?_
            refine h_put (pc' := 128) rfl rfl rfl rfl rfl rfl ci_0 (h_fb ci_0 (by omega)) ?_
            have Is660 : h_I (h_up s633 98 7 0) := (if_98_7 Is633 (by omega))
            have Fs660 := (Fs633.up (q := 98) (a := 7) (v := 0) rfl)
            have es660_0 : h_up s633 98 7 0 98 15 = s633 98 15 := rfl
            have es660_1 : h_up s633 98 7 0 98 16 = s633 98 16 := rfl
            have es660_2 : h_up s633 98 7 0 98 17 = s633 98 17 := rfl
            have es660_3 : h_up s633 98 7 0 98 18 = s633 98 18 := rfl
            have es660_4 : h_up s633 98 7 0 98 13 = s633 98 13 := rfl
            have es660_5 : h_up s633 98 7 0 98 5 = s633 98 5 := rfl
            have es660_6 : h_up s633 98 7 0 98 6 = s633 98 6 := rfl
            have es660_7 : h_up s633 98 7 0 101 18 = s633 101 18 := rfl
            have es660_8 : h_up s633 98 7 0 101 25 = s633 101 25 := rfl
            generalize h_up s633 98 7 0 = s660 at Is660 Fs660 es660_0 es660_1 es660_2 es660_3 es660_4 es660_5 es660_6 es660_7 es660_8 ⊢
            refine h_aload_n (pc' := 129) rfl rfl rfl ?_
            refine h_call (sp := false) (pc' := 132) (M := [(0, .ref 98)]) rfl rfl rfl rfl rfl rfl rfl rfl ?_
            refine v_step _ Is660  (fun s662 Is662 Gs662 ps662_0 ps662_1 ps662_2 => h_Kn ?_)
            have Fs662 := (Gs662.l1).tr Fs660
            have es662_5 : s662 98 5 = s660 98 5 := Gs662 98 5 rfl
            have es662_6 : s662 98 6 = s660 98 6 := Gs662 98 6 rfl
            have es662_7 : s662 101 18 = s660 101 18 := Gs662 101 18 rfl
            have es662_8 : s662 101 25 = s660 101 25 := Gs662 101 25 rfl
            refine h_aload_n (pc' := 133) rfl rfl rfl ?_
            refine h_getI (pc' := 136) (v := s662 98 13) rfl rfl rfl rfl rfl rfl (fun z663 hz663 => ?_)
            have tz663 := tf_98_13 Is662
            refine h_zle (tg := 140) (pc' := 139) rfl rfl rfl hz663 (fun c664 => ?_) (fun c664 => ?_)
            · refine h_aload_n (pc' := 141) rfl rfl rfl ?_
              refine h_iload_n (pc' := 142) rfl rfl rfl ?_
              refine h_call (sp := false) (pc' := 145) (M := [(0, .ref 98), (1, .int r1)]) rfl rfl rfl rfl rfl rfl rfl rfl ?_
              refine v_readMore _ Is662 r1 _ hr1 (by omega) (by omega) (by omega) (by omega) (by omega) (fun s666 Is666 Gs666 ps666_0 ps666_1 => h_Kn ?_)
              have Fs666 := (Gs666).tr Fs662
              refine h_aload_n (pc' := 146) rfl rfl rfl ?_
              refine h_getI (pc' := 149) (v := s666 98 13) rfl rfl rfl rfl rfl rfl (fun z667 hz667 => ?_)
              have tz667 := tf_98_13 Is666
              refine h_zne (tg := 165) (pc' := 152) rfl rfl rfl hz667 (fun c668 => ?_) (fun c668 => ?_)
              · refine h_aload_n (pc' := 166) rfl rfl rfl ?_
                refine h_call (sp := false) (pc' := 169) (M := [(0, .ref 98)]) rfl rfl rfl rfl rfl rfl rfl rfl ?_
                refine v_step _ Is666  (fun s670 Is670 Gs670 ps670_0 ps670_1 ps670_2 => h_Kn ?_)
                have Fs670 := (Gs670.l1).tr Fs666
                have es670_5 : s670 98 5 = s666 98 5 := Gs670 98 5 rfl
                have es670_6 : s670 98 6 = s666 98 6 := Gs670 98 6 rfl
                have es670_7 : s670 101 18 = s666 101 18 := Gs670 101 18 rfl
                have es670_8 : s670 101 25 = s666 101 25 := Gs670 101 25 rfl
                exact h_vret rfl rfl (kk _ Is670 Fs670 (by omega) (by omega))
              · refine h_aload_n (pc' := 153) rfl rfl rfl ?_
                refine h_getI (pc' := 156) (v := s666 98 17) rfl rfl rfl rfl rfl rfl (fun z671 hz671 => ?_)
                have tz671 := tf_98_17 Is666
                refine h_iconst (pc' := 157) (x := (Int32.ofInt 3)) rfl rfl rfl ?_
                refine h_ceq (tg := 165) (pc' := 160) rfl rfl rfl hz671 ci_3 (fun c672 => ?_) (fun c672 => ?_)
                · refine h_aload_n (pc' := 166) rfl rfl rfl ?_
                  refine h_call (sp := false) (pc' := 169) (M := [(0, .ref 98)]) rfl rfl rfl rfl rfl rfl rfl rfl ?_
                  refine v_step _ Is666  (fun s674 Is674 Gs674 ps674_0 ps674_1 ps674_2 => h_Kn ?_)
                  have Fs674 := (Gs674.l1).tr Fs666
                  have es674_5 : s674 98 5 = s666 98 5 := Gs674 98 5 rfl
                  have es674_6 : s674 98 6 = s666 98 6 := Gs674 98 6 rfl
                  have es674_7 : s674 101 18 = s666 101 18 := Gs674 101 18 rfl
                  have es674_8 : s674 101 25 = s666 101 25 := Gs674 101 25 rfl
                  exact h_vret rfl rfl (kk _ Is674 Fs674 (by omega) (by omega))
                · refine h_aload_n (pc' := 161) rfl rfl rfl ?_
                  refine h_iconst (pc' := 162) (x := (Int32.ofInt 2)) rfl rfl rfl ?_
                  refine h_call (sp := false) (pc' := 165) (M := [(0, .ref 98), (1, .int (Int32.ofInt 2))]) rfl rfl rfl rfl rfl rfl rfl rfl ?_
                  refine h_aload_n (pc' := 1) rfl rfl rfl ?_
                  refine h_getI (pc' := 4) (v := s666 98 13) rfl rfl rfl rfl rfl rfl (fun z675 hz675 => ?_)
                  have tz675 := tf_98_13 Is666
                  refine h_zne (tg := 20) (pc' := 7) rfl rfl rfl hz675 (fun c676 => absurd c676 (by omega)) (fun c676 => ?_)
                  refine h_aload_n (pc' := 8) rfl rfl rfl ?_
                  refine h_iload_n (pc' := 9) rfl rfl rfl ?_
                  refine h_put (pc' := 12) rfl rfl rfl rfl rfl rfl ci_2 rfl ?_
                  have Is677 : h_I (h_up s666 98 13 2) := (if_98_13 Is666 (by omega))
                  have Fs677 := (Fs666.up (q := 98) (a := 13) (v := 2) rfl)
                  have es677_0 : h_up s666 98 13 2 98 15 = s666 98 15 := rfl
                  have es677_1 : h_up s666 98 13 2 98 16 = s666 98 16 := rfl
                  have es677_2 : h_up s666 98 13 2 98 17 = s666 98 17 := rfl
                  have es677_3 : h_up s666 98 13 2 98 18 = s666 98 18 := rfl
                  have es677_4 : h_up s666 98 13 2 98 13 = 2 := rfl
                  have es677_5 : h_up s666 98 13 2 98 5 = s666 98 5 := rfl
                  have es677_6 : h_up s666 98 13 2 98 6 = s666 98 6 := rfl
                  have es677_7 : h_up s666 98 13 2 101 18 = s666 101 18 := rfl
                  have es677_8 : h_up s666 98 13 2 101 25 = s666 101 25 := rfl
                  generalize h_up s666 98 13 2 = s677 at Is677 Fs677 es677_0 es677_1 es677_2 es677_3 es677_4 es677_5 es677_6 es677_7 es677_8 ⊢
                  refine h_aload_n (pc' := 13) rfl rfl rfl ?_
                  refine h_aload_n (pc' := 14) rfl rfl rfl ?_
                  refine h_getI (pc' := 17) (v := s677 98 16) rfl rfl rfl rfl rfl rfl (fun z678 hz678 => ?_)
                  have tz678 := tf_98_16 Is677
                  refine h_put (pc' := 20) rfl rfl rfl rfl rfl rfl hz678 rfl ?_
                  have Is679 : h_I (h_up s677 98 14 (s677 98 16)) := (if_98_14 Is677 (h_rgv hz678))
                  have Fs679 := (Fs677.up (q := 98) (a := 14) (v := (s677 98 16)) rfl)
                  have es679_0 : h_up s677 98 14 (s677 98 16) 98 15 = s677 98 15 := rfl
                  have es679_1 : h_up s677 98 14 (s677 98 16) 98 16 = s677 98 16 := rfl
                  have es679_2 : h_up s677 98 14 (s677 98 16) 98 17 = s677 98 17 := rfl
                  have es679_3 : h_up s677 98 14 (s677 98 16) 98 18 = s677 98 18 := rfl
                  have es679_4 : h_up s677 98 14 (s677 98 16) 98 13 = s677 98 13 := rfl
                  have es679_5 : h_up s677 98 14 (s677 98 16) 98 5 = s677 98 5 := rfl
                  have es679_6 : h_up s677 98 14 (s677 98 16) 98 6 = s677 98 6 := rfl
                  have es679_7 : h_up s677 98 14 (s677 98 16) 101 18 = s677 101 18 := rfl
                  have es679_8 : h_up s677 98 14 (s677 98 16) 101 25 = s677 101 25 := rfl
                  generalize h_up s677 98 14 (s677 98 16) = s679 at Is679 Fs679 es679_0 es679_1 es679_2 es679_3 es679_4 es679_5 es679_6 es679_7 es679_8 ⊢
                  refine h_vret rfl rfl (h_Kn ?_)
                  refine h_aload_n (pc' := 166) rfl rfl rfl ?_
                  refine h_call (sp := false) (pc' := 169) (M := [(0, .ref 98)]) rfl rfl rfl rfl rfl rfl rfl rfl ?_
                  refine v_step _ Is679  (fun s681 Is681 Gs681 ps681_0 ps681_1 ps681_2 => h_Kn ?_)
                  have Fs681 := (Gs681.l1).tr Fs679
                  have es681_5 : s681 98 5 = s679 98 5 := Gs681 98 5 rfl
                  have es681_6 : s681 98 6 = s679 98 6 := Gs681 98 6 rfl
                  have es681_7 : s681 101 18 = s679 101 18 := Gs681 101 18 rfl
                  have es681_8 : s681 101 25 = s679 101 25 := Gs681 101 25 rfl
                  exact h_vret rfl rfl (kk _ Is681 Fs681 (by omega) (by omega))
            · exact h_vret rfl rfl (kk _ Is662 Fs662 (by omega) (by omega))
      · refine h_iload_n (pc' := 38) rfl rfl rfl ?_
        refine h_iconst (pc' := 39) (x := (Int32.ofInt 4)) rfl rfl rfl ?_
        refine h_cne (tg := 53) (pc' := 42) rfl rfl rfl hr1 ci_4 (fun c682 => ?_) (fun c682 => absurd c682 (by omega))
        refine h_iload_n (pc' := 54) rfl rfl rfl ?_
        refine h_iconst (pc' := 55) (x := (Int32.ofInt 5)) rfl rfl rfl ?_
        refine h_cne (tg := 69) (pc' := 58) rfl rfl rfl hr1 ci_5 (fun c683 => ?_) (fun c683 => absurd c683 (by omega))
        refine h_iload_n (pc' := 70) rfl rfl rfl ?_
        refine h_bipush (pc' := 72) (x := (Int32.ofInt 6)) rfl rfl cb_6 ?_
        refine h_cne (tg := 88) (pc' := 75) rfl rfl rfl hr1 ci_6 (fun c684 => ?_) (fun c684 => absurd c684 (by omega))
        refine h_iload_n (pc' := 89) rfl rfl rfl ?_
        refine h_bipush (pc' := 91) (x := (Int32.ofInt 7)) rfl rfl cb_7 ?_
        refine h_cne (tg := 106) (pc' := 94) rfl rfl rfl hr1 ci_7 (fun c685 => ?_) (fun c685 => absurd c685 (by omega))
        refine h_aload_n (pc' := 107) rfl rfl rfl ?_
        refine h_aload_n (pc' := 108) rfl rfl rfl ?_
        refine h_getI (pc' := 111) (v := σ 98 7) rfl rfl rfl rfl rfl rfl (fun z686 hz686 => ?_)
        have tz686 := tf_98_7 hI
        refine h_zne (tg := 120) (pc' := 114) rfl rfl rfl hz686 (fun c687 => ?_) (fun c687 => ?_)
        · refine h_iconst (pc' := 121) (x := (Int32.ofInt 1)) rfl rfl rfl ?_
          refine h_goto (pc' := 125) rfl rfl ?_
          refine h_put (pc' := 128) rfl rfl rfl rfl rfl rfl ci_1 (h_fb ci_1 (by omega)) ?_
          have Is688 : h_I (h_up σ 98 7 1) := (if_98_7 hI (by omega))
          have Fs688 := (F00.up (q := 98) (a := 7) (v := 1) rfl)
          have es688_0 : h_up σ 98 7 1 98 15 = σ 98 15 := rfl
          have es688_1 : h_up σ 98 7 1 98 16 = σ 98 16 := rfl
          have es688_2 : h_up σ 98 7 1 98 17 = σ 98 17 := rfl
          have es688_3 : h_up σ 98 7 1 98 18 = σ 98 18 := rfl
          have es688_4 : h_up σ 98 7 1 98 13 = σ 98 13 := rfl
          have es688_5 : h_up σ 98 7 1 98 5 = σ 98 5 := rfl
          have es688_6 : h_up σ 98 7 1 98 6 = σ 98 6 := rfl
          have es688_7 : h_up σ 98 7 1 101 18 = σ 101 18 := rfl
          have es688_8 : h_up σ 98 7 1 101 25 = σ 101 25 := rfl
          generalize h_up σ 98 7 1 = s688 at Is688 Fs688 es688_0 es688_1 es688_2 es688_3 es688_4 es688_5 es688_6 es688_7 es688_8 ⊢
          refine h_aload_n (pc' := 129) rfl rfl rfl ?_
          refine h_call (sp := false) (pc' := 132) (M := [(0, .ref 98)]) rfl rfl rfl rfl rfl rfl rfl rfl ?_
          refine v_step _ Is688  (fun s690 Is690 Gs690 ps690_0 ps690_1 ps690_2 => h_Kn ?_)
          have Fs690 := (Gs690.l1).tr Fs688
          have es690_5 : s690 98 5 = s688 98 5 := Gs690 98 5 rfl
          have es690_6 : s690 98 6 = s688 98 6 := Gs690 98 6 rfl
          have es690_7 : s690 101 18 = s688 101 18 := Gs690 101 18 rfl
          have es690_8 : s690 101 25 = s688 101 25 := Gs690 101 25 rfl
          refine h_aload_n (pc' := 133) rfl rfl rfl ?_
          refine h_getI (pc' := 136) (v := s690 98 13) rfl rfl rfl rfl rfl rfl (fun z691 hz691 => ?_)
          have tz691 := tf_98_13 Is690
          refine h_zle (tg := 140) (pc' := 139) rfl rfl rfl hz691 (fun c692 => ?_) (fun c692 => ?_)
          · refine h_aload_n (pc' := 141) rfl rfl rfl ?_
            refine h_iload_n (pc' := 142) rfl rfl rfl ?_
            refine h_call (sp := false) (pc' := 145) (M := [(0, .ref 98), (1, .int r1)]) rfl rfl rfl rfl rfl rfl rfl rfl ?_
            refine v_readMore _ Is690 r1 _ hr1 (by omega) (by omega) (by omega) (by omega) (by omega) (fun s694 Is694 Gs694 ps694_0 ps694_1 => h_Kn ?_)
            have Fs694 := (Gs694).tr Fs690
            refine h_aload_n (pc' := 146) rfl rfl rfl ?_
            refine h_getI (pc' := 149) (v := s694 98 13) rfl rfl rfl rfl rfl rfl (fun z695 hz695 => ?_)
            have tz695 := tf_98_13 Is694
            refine h_zne (tg := 165) (pc' := 152) rfl rfl rfl hz695 (fun c696 => ?_) (fun c696 => ?_)
            · refine h_aload_n (pc' := 166) rfl rfl rfl ?_
              refine h_call (sp := false) (pc' := 169) (M := [(0, .ref 98)]) rfl rfl rfl rfl rfl rfl rfl rfl ?_
              refine v_step _ Is694  (fun s698 Is698 Gs698 ps698_0 ps698_1 ps698_2 => h_Kn ?_)
              have Fs698 := (Gs698.l1).tr Fs694
              have es698_5 : s698 98 5 = s694 98 5 := Gs698 98 5 rfl
              have es698_6 : s698 98 6 = s694 98 6 := Gs698 98 6 rfl
              have es698_7 : s698 101 18 = s694 101 18 := Gs698 101 18 rfl
              have es698_8 : s698 101 25 = s694 101 25 := Gs698 101 25 rfl
              exact h_vret rfl rfl (kk _ Is698 Fs698 (by omega) (by omega))
            · refine h_aload_n (pc' := 153) rfl rfl rfl ?_
              refine h_getI (pc' := 156) (v := s694 98 17) rfl rfl rfl rfl rfl rfl (fun z699 hz699 => ?_)
              have tz699 := tf_98_17 Is694
              refine h_iconst (pc' := 157) (x := (Int32.ofInt 3)) rfl rfl rfl ?_
              refine h_ceq (tg := 165) (pc' := 160) rfl rfl rfl hz699 ci_3 (fun c700 => ?_) (fun c700 => ?_)
              · refine h_aload_n (pc' := 166) rfl rfl rfl ?_
                refine h_call (sp := false) (pc' := 169) (M := [(0, .ref 98)]) rfl rfl rfl rfl rfl rfl rfl rfl ?_
                refine v_step _ Is694  (fun s702 Is702 Gs702 ps702_0 ps702_1 ps702_2 => h_Kn ?_)
                have Fs702 := (Gs702.l1).tr Fs694
                have es702_5 : s702 98 5 = s694 98 5 := Gs702 98 5 rfl
                have es702_6 : s702 98 6 = s694 98 6 := Gs702 98 6 rfl
                have es702_7 : s702 101 18 = s694 101 18 := Gs702 101 18 rfl
                have es702_8 : s702 101 25 = s694 101 25 := Gs702 101 25 rfl
                exact h_vret rfl rfl (kk _ Is702 Fs702 (by omega) (by omega))
              · refine h_aload_n (pc' := 161) rfl rfl rfl ?_
                refine h_iconst (pc' := 162) (x := (Int32.ofInt 2)) rfl rfl rfl ?_
                refine h_call (sp := false) (pc' := 165) (M := [(0, .ref 98), (1, .int (Int32.ofInt 2))]) rfl rfl rfl rfl rfl rfl rfl rfl ?_
                refine h_aload_n (pc' := 1) rfl rfl rfl ?_
                refine h_getI (pc' := 4) (v := s694 98 13) rfl rfl rfl rfl rfl rfl (fun z703 hz703 => ?_)
                have tz703 := tf_98_13 Is694
                refine h_zne (tg := 20) (pc' := 7) rfl rfl rfl hz703 (fun c704 => absurd c704 (by omega)) (fun c704 => ?_)
                refine h_aload_n (pc' := 8) rfl rfl rfl ?_
                refine h_iload_n (pc' := 9) rfl rfl rfl ?_
                refine h_put (pc' := 12) rfl rfl rfl rfl rfl rfl ci_2 rfl ?_
                have Is705 : h_I (h_up s694 98 13 2) := (if_98_13 Is694 (by omega))
                have Fs705 := (Fs694.up (q := 98) (a := 13) (v := 2) rfl)
                have es705_0 : h_up s694 98 13 2 98 15 = s694 98 15 := rfl
                have es705_1 : h_up s694 98 13 2 98 16 = s694 98 16 := rfl
                have es705_2 : h_up s694 98 13 2 98 17 = s694 98 17 := rfl
                have es705_3 : h_up s694 98 13 2 98 18 = s694 98 18 := rfl
                have es705_4 : h_up s694 98 13 2 98 13 = 2 := rfl
                have es705_5 : h_up s694 98 13 2 98 5 = s694 98 5 := rfl
                have es705_6 : h_up s694 98 13 2 98 6 = s694 98 6 := rfl
                have es705_7 : h_up s694 98 13 2 101 18 = s694 101 18 := rfl
                have es705_8 : h_up s694 98 13 2 101 25 = s694 101 25 := rfl
                generalize h_up s694 98 13 2 = s705 at Is705 Fs705 es705_0 es705_1 es705_2 es705_3 es705_4 es705_5 es705_6 es705_7 es705_8 ⊢
                refine h_aload_n (pc' := 13) rfl rfl rfl ?_
                refine h_aload_n (pc' := 14) rfl rfl rfl ?_
                refine h_getI (pc' := 17) (v := s705 98 16) rfl rfl rfl rfl rfl rfl (fun z706 hz706 => ?_)
                have tz706 := tf_98_16 Is705
                refine h_put (pc' := 20) rfl rfl rfl rfl rfl rfl hz706 rfl ?_
                have Is707 : h_I (h_up s705 98 14 (s705 98 16)) := (if_98_14 Is705 (h_rgv hz706))
                have Fs707 := (Fs705.up (q := 98) (a := 14) (v := (s705 98 16)) rfl)
                have es707_0 : h_up s705 98 14 (s705 98 16) 98 15 = s705 98 15 := rfl
                have es707_1 : h_up s705 98 14 (s705 98 16) 98 16 = s705 98 16 := rfl
                have es707_2 : h_up s705 98 14 (s705 98 16) 98 17 = s705 98 17 := rfl
                have es707_3 : h_up s705 98 14 (s705 98 16) 98 18 = s705 98 18 := rfl
                have es707_4 : h_up s705 98 14 (s705 98 16) 98 13 = s705 98 13 := rfl
                have es707_5 : h_up s705 98 14 (s705 98 16) 98 5 = s705 98 5 := rfl
                have es707_6 : h_up s705 98 14 (s705 98 16) 98 6 = s705 98 6 := rfl
                have es707_7 : h_up s705 98 14 (s705 98 16) 101 18 = s705 101 18 := rfl
                have es707_8 : h_up s705 98 14 (s705 98 16) 101 25 = s705 101 25 := rfl
                generalize h_up s705 98 14 (s705 98 16) = s707 at Is707 Fs707 es707_0 es707_1 es707_2 es707_3 es707_4 es707_5 es707_6 es707_7 es707_8 ⊢
                refine h_vret rfl rfl (h_Kn ?_)
                refine h_aload_n (pc' := 166) rfl rfl rfl ?_
                refine h_call (sp := false) (pc' := 169) (M := [(0, .ref 98)]) rfl rfl rfl rfl rfl rfl rfl rfl ?_
                refine v_step _ Is707  (fun s709 Is709 Gs709 ps709_0 ps709_1 ps709_2 => h_Kn ?_)
                have Fs709 := (Gs709.l1).tr Fs707
                have es709_5 : s709 98 5 = s707 98 5 := Gs709 98 5 rfl
                have es709_6 : s709 98 6 = s707 98 6 := Gs709 98 6 rfl
                have es709_7 : s709 101 18 = s707 101 18 := Gs709 101 18 rfl
                have es709_8 : s709 101 25 = s707 101 25 := Gs709 101 25 rfl
                exact h_vret rfl rfl (kk _ Is709 Fs709 (by omega) (by omega))
          · exact h_vret rfl rfl (kk _ Is690 Fs690 (by omega) (by omega))
        · refine h_iload_n (pc' := 115) rfl rfl rfl ?_
          refine h_bipush (pc' := 117) (x := (Int32.ofInt 7)) rfl rfl cb_7 ?_
          refine h_cne (tg := 124) (pc' := 120) rfl rfl rfl hr1 ci_7 (fun c710 => ?_) (fun c710 => absurd c710 (by omega))
          refine h_iconst (pc' := 125) (x := (Int32.ofInt 0)) rfl rfl rfl ?_
          refine h_put (pc' := 128) rfl rfl rfl rfl rfl rfl ci_0 (h_fb ci_0 (by omega)) ?_
          have Is711 : h_I (h_up σ 98 7 0) := (if_98_7 hI (by omega))
          have Fs711 := (F00.up (q := 98) (a := 7) (v := 0) rfl)
          have es711_0 : h_up σ 98 7 0 98 15 = σ 98 15 := rfl
          have es711_1 : h_up σ 98 7 0 98 16 = σ 98 16 := rfl
          have es711_2 : h_up σ 98 7 0 98 17 = σ 98 17 := rfl
          have es711_3 : h_up σ 98 7 0 98 18 = σ 98 18 := rfl
          have es711_4 : h_up σ 98 7 0 98 13 = σ 98 13 := rfl
          have es711_5 : h_up σ 98 7 0 98 5 = σ 98 5 := rfl
          have es711_6 : h_up σ 98 7 0 98 6 = σ 98 6 := rfl
          have es711_7 : h_up σ 98 7 0 101 18 = σ 101 18 := rfl
          have es711_8 : h_up σ 98 7 0 101 25 = σ 101 25 := rfl
          generalize h_up σ 98 7 0 = s711 at Is711 Fs711 es711_0 es711_1 es711_2 es711_3 es711_4 es711_5 es711_6 es711_7 es711_8 ⊢
          refine h_aload_n (pc' := 129) rfl rfl rfl ?_
          refine h_call (sp := false) (pc' := 132) (M := [(0, .ref 98)]) rfl rfl rfl rfl rfl rfl rfl rfl ?_
          refine v_step _ Is711  (fun s713 Is713 Gs713 ps713_0 ps713_1 ps713_2 => h_Kn ?_)
          have Fs713 := (Gs713.l1).tr Fs711
          have es713_5 : s713 98 5 = s711 98 5 := Gs713 98 5 rfl
          have es713_6 : s713 98 6 = s711 98 6 := Gs713 98 6 rfl
          have es713_7 : s713 101 18 = s711 101 18 := Gs713 101 18 rfl
          have es713_8 : s713 101 25 = s711 101 25 := Gs713 101 25 rfl
          refine h_aload_n (pc' := 133) rfl rfl rfl ?_
          refine h_getI (pc' := 136) (v := s713 98 13) rfl rfl rfl rfl rfl rfl (fun z714 hz714 => ?_)
          have tz714 := tf_98_13 Is713
          refine h_zle (tg := 140) (pc' := 139) rfl rfl rfl hz714 (fun c715 => ?_) (fun c715 => ?_)
          · refine h_aload_n (pc' := 141) rfl rfl rfl ?_
            refine h_iload_n (pc' := 142) rfl rfl rfl ?_
            refine h_call (sp := false) (pc' := 145) (M := [(0, .ref 98), (1, .int r1)]) rfl rfl rfl rfl rfl rfl rfl rfl ?_
            refine v_readMore _ Is713 r1 _ hr1 (by omega) (by omega) (by omega) (by omega) (by omega) (fun s717 Is717 Gs717 ps717_0 ps717_1 => h_Kn ?_)
            have Fs717 := (Gs717).tr Fs713
            refine h_aload_n (pc' := 146) rfl rfl rfl ?_
            refine h_getI (pc' := 149) (v := s717 98 13) rfl rfl rfl rfl rfl rfl (fun z718 hz718 => ?_)
            have tz718 := tf_98_13 Is717
            refine h_zne (tg := 165) (pc' := 152) rfl rfl rfl hz718 (fun c719 => ?_) (fun c719 => ?_)
            · refine h_aload_n (pc' := 166) rfl rfl rfl ?_
              refine h_call (sp := false) (pc' := 169) (M := [(0, .ref 98)]) rfl rfl rfl rfl rfl rfl rfl rfl ?_
              refine v_step _ Is717  (fun s721 Is721 Gs721 ps721_0 ps721_1 ps721_2 => h_Kn ?_)
              have Fs721 := (Gs721.l1).tr Fs717
              have es721_5 : s721 98 5 = s717 98 5 := Gs721 98 5 rfl
              have es721_6 : s721 98 6 = s717 98 6 := Gs721 98 6 rfl
              have es721_7 : s721 101 18 = s717 101 18 := Gs721 101 18 rfl
              have es721_8 : s721 101 25 = s717 101 25 := Gs721 101 25 rfl
              exact h_vret rfl rfl (kk _ Is721 Fs721 (by omega) (by omega))
            · refine h_aload_n (pc' := 153) rfl rfl rfl ?_
              refine h_getI (pc' := 156) (v := s717 98 17) rfl rfl rfl rfl rfl rfl (fun z722 hz722 => ?_)
              have tz722 := tf_98_17 Is717
              refine h_iconst (pc' := 157) (x := (Int32.ofInt 3)) rfl rfl rfl ?_
              refine h_ceq (tg := 165) (pc' := 160) rfl rfl rfl hz722 ci_3 (fun c723 => ?_) (fun c723 => ?_)
              · refine h_aload_n (pc' := 166) rfl rfl rfl ?_
                refine h_call (sp := false) (pc' := 169) (M := [(0, .ref 98)]) rfl rfl rfl rfl rfl rfl rfl rfl ?_
                refine v_step _ Is717  (fun s725 Is725 Gs725 ps725_0 ps725_1 ps725_2 => h_Kn ?_)
                have Fs725 := (Gs725.l1).tr Fs717
                have es725_5 : s725 98 5 = s717 98 5 := Gs725 98 5 rfl
                have es725_6 : s725 98 6 = s717 98 6 := Gs725 98 6 rfl
                have es725_7 : s725 101 18 = s717 101 18 := Gs725 101 18 rfl
                have es725_8 : s725 101 25 = s717 101 25 := Gs725 101 25 rfl
                exact h_vret rfl rfl (kk _ Is725 Fs725 (by omega) (by omega))
              · refine h_aload_n (pc' := 161) rfl rfl rfl ?_
                refine h_iconst (pc' := 162) (x := (Int32.ofInt 2)) rfl rfl rfl ?_
                refine h_call (sp := false) (pc' := 165) (M := [(0, .ref 98), (1, .int (Int32.ofInt 2))]) rfl rfl rfl rfl rfl rfl rfl rfl ?_
                refine h_aload_n (pc' := 1) rfl rfl rfl ?_
                refine h_getI (pc' := 4) (v := s717 98 13) rfl rfl rfl rfl rfl rfl (fun z726 hz726 => ?_)
                have tz726 := tf_98_13 Is717
                refine h_zne (tg := 20) (pc' := 7) rfl rfl rfl hz726 (fun c727 => absurd c727 (by omega)) (fun c727 => ?_)
                refine h_aload_n (pc' := 8) rfl rfl rfl ?_
                refine h_iload_n (pc' := 9) rfl rfl rfl ?_
                refine h_put (pc' := 12) rfl rfl rfl rfl rfl rfl ci_2 rfl ?_
                have Is728 : h_I (h_up s717 98 13 2) := (if_98_13 Is717 (by omega))
                have Fs728 := (Fs717.up (q := 98) (a := 13) (v := 2) rfl)
                have es728_0 : h_up s717 98 13 2 98 15 = s717 98 15 := rfl
                have es728_1 : h_up s717 98 13 2 98 16 = s717 98 16 := rfl
                have es728_2 : h_up s717 98 13 2 98 17 = s717 98 17 := rfl
                have es728_3 : h_up s717 98 13 2 98 18 = s717 98 18 := rfl
                have es728_4 : h_up s717 98 13 2 98 13 = 2 := rfl
                have es728_5 : h_up s717 98 13 2 98 5 = s717 98 5 := rfl
                have es728_6 : h_up s717 98 13 2 98 6 = s717 98 6 := rfl
                have es728_7 : h_up s717 98 13 2 101 18 = s717 101 18 := rfl
                have es728_8 : h_up s717 98 13 2 101 25 = s717 101 25 := rfl
                generalize h_up s717 98 13 2 = s728 at Is728 Fs728 es728_0 es728_1 es728_2 es728_3 es728_4 es728_5 es728_6 es728_7 es728_8 ⊢
                refine h_aload_n (pc' := 13) rfl rfl rfl ?_
                refine h_aload_n (pc' := 14) rfl rfl rfl ?_
                refine h_getI (pc' := 17) (v := s728 98 16) rfl rfl rfl rfl rfl rfl (fun z729 hz729 => ?_)
                have tz729 := tf_98_16 Is728
                refine h_put (pc' := 20) rfl rfl rfl rfl rfl rfl hz729 rfl ?_
                have Is730 : h_I (h_up s728 98 14 (s728 98 16)) := (if_98_14 Is728 (h_rgv hz729))
                have Fs730 := (Fs728.up (q := 98) (a := 14) (v := (s728 98 16)) rfl)
                have es730_0 : h_up s728 98 14 (s728 98 16) 98 15 = s728 98 15 := rfl
                have es730_1 : h_up s728 98 14 (s728 98 16) 98 16 = s728 98 16 := rfl
                have es730_2 : h_up s728 98 14 (s728 98 16) 98 17 = s728 98 17 := rfl
                have es730_3 : h_up s728 98 14 (s728 98 16) 98 18 = s728 98 18 := rfl
                have es730_4 : h_up s728 98 14 (s728 98 16) 98 13 = s728 98 13 := rfl
                have es730_5 : h_up s728 98 14 (s728 98 16) 98 5 = s728 98 5 := rfl
                have es730_6 : h_up s728 98 14 (s728 98 16) 98 6 = s728 98 6 := rfl
                have es730_7 : h_up s728 98 14 (s728 98 16) 101 18 = s728 101 18 := rfl
                have es730_8 : h_up s728 98 14 (s728 98 16) 101 25 = s728 101 25 := rfl
                generalize h_up s728 98 14 (s728 98 16) = s730 at Is730 Fs730 es730_0 es730_1 es730_2 es730_3 es730_4 es730_5 es730_6 es730_7 es730_8 ⊢
                refine h_vret rfl rfl (h_Kn ?_)
                refine h_aload_n (pc' := 166) rfl rfl rfl ?_
                refine h_call (sp := false) (pc' := 169) (M := [(0, .ref 98)]) rfl rfl rfl rfl rfl rfl rfl rfl ?_
                refine v_step _ Is730  (fun s732 Is732 Gs732 ps732_0 ps732_1 ps732_2 => h_Kn ?_)
                have Fs732 := (Gs732.l1).tr Fs730
                have es732_5 : s732 98 5 = s730 98 5 := Gs732 98 5 rfl
                have es732_6 : s732 98 6 = s730 98 6 := Gs732 98 6 rfl
                have es732_7 : s732 101 18 = s730 101 18 := Gs732 101 18 rfl
                have es732_8 : s732 101 25 = s730 101 25 := Gs732 101 25 rfl
                exact h_vret rfl rfl (kk _ Is732 Fs732 (by omega) (by omega))
          · exact h_vret rfl rfl (kk _ Is713 Fs713 (by omega) (by omega))
theorem v_textM_l (ns : Nat) (σ : h_S) (hI : h_I σ) {Q : Option Value → h_S → Prop} (kk : ∀ (r : Int32) (b : Int) (hb : r.toInt = b) (τ : h_S), h_I τ → h_F k_tp τ σ → (τ 98 11 = 0) → (τ 64 1 = σ 64 1) → Q (some (.int r)) τ) : ∀ n : Nat, (∀ (s0 : h_S), h_I s0 → h_F k_tp s0 σ → ∀ (y1 : Int32) (b1 : Int), y1.toInt = b1 → (0 ≤ b1 ∧ b1 ≤ 0) → ∀ (y2 : Int32) (b2 : Int), y2.toInt = b2 → (0 ≤ b2 ∧ b2 ≤ 44) → (s0 64 1 = σ 64 1) → (45 - b2) + 1000000 ≤ (n : Int) → h_T g_P (g_Y ns) 155 39 [(0, .ref 98), (1, .int y1), (2, .int y2)] [] s0 Q) ∧ (∀ (s0 : h_S), h_I s0 → h_F k_tp s0 σ → ∀ (y1 : Int32) (b1 : Int), y1.toInt = b1 → ∀ (y2 : Int32) (b2 : Int), y2.toInt = b2 → (44 ≤ b2 ∧ b2 ≤ 44) → (s0 64 1 = σ 64 1) → (161 - s0 98 15) * 100 - s0 98 13 * 10 + s0 98 17 + 61 + 1000 ≤ (n : Int) → h_T g_P (g_Y ns) 155 62 [(0, .ref 98), (1, .int y1), (2, .int y2)] [] s0 Q) ∧ (∀ (s0 : h_S), h_I s0 → h_F k_tp s0 σ → ∀ (y1 : Int32) (b1 : Int), y1.toInt = b1 → ∀ (y2 : Int32) (b2 : Int), y2.toInt = b2 → (0 ≤ b2 ∧ b2 ≤ 44) → (s0 64 1 = σ 64 1) → (45 - b2) ≤ (n : Int) → h_T g_P (g_Y ns) 155 151 [(0, .ref 98), (1, .int y1), (2, .int y2)] [] s0 Q) := by
  intro n
  induction n with
  | zero => exact ⟨by intro s0 I0 F0_ y1 b1 hy1 ry1 y2 b2 hy2 ry2 ex0 hm; exfalso; omega, by intro s0 I0 F0_ y1 b1 hy1 y2 b2 hy2 ry2 ex0 hm; exfalso; omega, by intro s0 I0 F0_ y1 b1 hy1 y2 b2 hy2 ry2 ex0 hm; exfalso; omega⟩
  | succ n ih =>
    refine ⟨?_, ?_, ?_⟩
    · intro s0 I0 F0_ y1 b1 hy1 ry1 y2 b2 hy2 ry2 ex0 hm
      refine h_iload_n (pc' := 40) rfl rfl rfl ?_
      refine h_bipush (pc' := 42) (x := (Int32.ofInt 44)) rfl rfl cb_44 ?_
      refine h_cge (tg := 58) (pc' := 45) rfl rfl rfl hy2 ci_44 (fun c1 => ?_) (fun c1 => ?_)
      · refine h_aload_n (pc' := 59) rfl rfl rfl ?_
        refine h_call (sp := false) (pc' := 62) (M := [(0, .ref 98)]) rfl rfl rfl rfl rfl rfl rfl rfl ?_
        refine v_step _ I0  (fun s3 Is3 Gs3 ps3_0 ps3_1 ps3_2 => h_Kn ?_)
        have Fs3 := (Gs3.l1.t1).tr F0_
        have es3_3 : s3 64 1 = s0 64 1 := Gs3 64 1 rfl
        have es3_4 : s3 98 11 = s0 98 11 := Gs3 98 11 rfl
        exact h_wk [(0, .ref 98), (1, .int y1), (2, .int y2)] ⟨rfl, rfl, rfl, trivial⟩ (ih.2.1 _ Is3 Fs3 y1 _ hy1 y2 _ hy2 (by omega) (by omega) (by omega))
      · refine h_aload_n (pc' := 46) rfl rfl rfl ?_
        refine h_getR (pc' := 49) rfl rfl rfl rfl rfl ?_
        refine h_iload_n (pc' := 50) rfl rfl rfl ?_
        refine h_iconst (pc' := 51) (x := (Int32.ofInt 0)) rfl rfl rfl ?_
        refine h_iast (pc' := 52) rfl rfl rfl rfl hy2 (by omega) (by omega) ci_0 ?_
        have Is4 : h_I (h_up s0 101 b2 0) := (iz_101 I0)
        have Fs4 := (F0_.up (q := 101) (a := b2) (v := 0) rfl)
        have es4_0 : h_up s0 101 b2 0 98 15 = s0 98 15 := rfl
        have es4_1 : h_up s0 101 b2 0 98 17 = s0 98 17 := rfl
        have es4_2 : h_up s0 101 b2 0 98 13 = s0 98 13 := rfl
        have es4_3 : h_up s0 101 b2 0 64 1 = s0 64 1 := rfl
        have es4_4 : h_up s0 101 b2 0 98 11 = s0 98 11 := rfl
        generalize h_up s0 101 b2 0 = s4 at Is4 Fs4 es4_0 es4_1 es4_2 es4_3 es4_4 ⊢
        refine h_iinc (pc' := 55) (M := fun z5 => [(2, .int z5), (0, .ref 98), (1, .int y1)]) rfl rfl rfl rfl hy2 ci_1 rfl (by omega) (by omega) (fun _ => rfl) (fun z5 hz5 => ?_)
        refine h_goto (pc' := 39) rfl rfl ?_
        exact h_wk [(0, .ref 98), (1, .int y1), (2, .int z5)] ⟨rfl, rfl, rfl, trivial⟩ (ih.1 _ Is4 Fs4 y1 _ hy1 (by omega) z5 _ hz5 (by omega) (by omega) (by omega))
    · intro s0 I0 F0_ y1 b1 hy1 y2 b2 hy2 ry2 ex0 hm
      refine h_aload_n (pc' := 63) rfl rfl rfl ?_
      refine h_getI (pc' := 66) (v := s0 98 13) rfl rfl rfl rfl rfl rfl (fun z1 hz1 => ?_)
      have tz1 := tf_98_13 I0
      refine h_zne (tg := 86) (pc' := 69) rfl rfl rfl hz1 (fun c2 => ?_) (fun c2 => ?_)
      · refine h_aload_n (pc' := 87) rfl rfl rfl ?_
        refine h_getI (pc' := 90) (v := s0 98 13) rfl rfl rfl rfl rfl rfl (fun z3 hz3 => ?_)
        have tz3 := tf_98_13 I0
        refine h_zne (tg := 121) (pc' := 93) rfl rfl rfl hz3 (fun c4 => ?_) (fun c4 => absurd c4 (by omega))
        refine h_aload_n (pc' := 122) rfl rfl rfl ?_
        refine h_iconst (pc' := 123) (x := (Int32.ofInt 0)) rfl rfl rfl ?_
        refine h_put (pc' := 126) rfl rfl rfl rfl rfl rfl ci_0 rfl ?_
        have Is5 : h_I (h_up s0 98 11 0) := (if_98_11 I0 (by omega))
        have Fs5 := (F0_.up (q := 98) (a := 11) (v := 0) rfl)
        have es5_0 : h_up s0 98 11 0 98 15 = s0 98 15 := rfl
        have es5_1 : h_up s0 98 11 0 98 17 = s0 98 17 := rfl
        have es5_2 : h_up s0 98 11 0 98 13 = s0 98 13 := rfl
        have es5_3 : h_up s0 98 11 0 64 1 = s0 64 1 := rfl
        have es5_4 : h_up s0 98 11 0 98 11 = 0 := rfl
        generalize h_up s0 98 11 0 = s5 at Is5 Fs5 es5_0 es5_1 es5_2 es5_3 es5_4 ⊢
        refine h_aload_n (pc' := 127) rfl rfl rfl ?_
        refine h_aload_n (pc' := 128) rfl rfl rfl ?_
        refine h_getI (pc' := 131) (v := s5 98 13) rfl rfl rfl rfl rfl rfl (fun z6 hz6 => ?_)
        have tz6 := tf_98_13 Is5
        refine h_put (pc' := 134) rfl rfl rfl rfl rfl rfl hz6 rfl ?_
        have Is7 : h_I (h_up s5 98 12 (s5 98 13)) := (if_98_12 Is5 (h_rgv hz6))
        have Fs7 := (Fs5.up (q := 98) (a := 12) (v := (s5 98 13)) rfl)
        have es7_0 : h_up s5 98 12 (s5 98 13) 98 15 = s5 98 15 := rfl
        have es7_1 : h_up s5 98 12 (s5 98 13) 98 17 = s5 98 17 := rfl
        have es7_2 : h_up s5 98 12 (s5 98 13) 98 13 = s5 98 13 := rfl
        have es7_3 : h_up s5 98 12 (s5 98 13) 64 1 = s5 64 1 := rfl
        have es7_4 : h_up s5 98 12 (s5 98 13) 98 11 = s5 98 11 := rfl
        generalize h_up s5 98 12 (s5 98 13) = s7 at Is7 Fs7 es7_0 es7_1 es7_2 es7_3 es7_4 ⊢
        refine h_aload_n (pc' := 135) rfl rfl rfl ?_
        refine h_getI (pc' := 138) (v := s7 98 13) rfl rfl rfl rfl rfl rfl (fun z8 hz8 => ?_)
        have tz8 := tf_98_13 Is7
        refine h_zle (tg := 149) (pc' := 141) rfl rfl rfl hz8 (fun c9 => absurd c9 (by omega)) (fun c9 => ?_)
        refine h_bipush (pc' := 143) (x := (Int32.ofInt (-10))) rfl rfl cb_m10 ?_
        refine h_aload_n (pc' := 144) rfl rfl rfl ?_
        refine h_getI (pc' := 147) (v := s7 98 14) rfl rfl rfl rfl rfl rfl (fun z10 hz10 => ?_)
        have tz10 := tf_98_14 Is7
        refine h_isubA (pc' := 148) rfl rfl (fun z11 hz11 => ?_)
        exact h_iret rfl rfl (kk _ _ rfl _ Is7 Fs7 (by omega) (by omega))
      · refine h_aload_n (pc' := 70) rfl rfl rfl ?_
        refine h_getI (pc' := 73) (v := s0 98 17) rfl rfl rfl rfl rfl rfl (fun z12 hz12 => ?_)
        have tz12 := tf_98_17 I0
        refine h_zeq (tg := 86) (pc' := 76) rfl rfl rfl hz12 (fun c13 => ?_) (fun c13 => ?_)
        · refine h_aload_n (pc' := 87) rfl rfl rfl ?_
          refine h_getI (pc' := 90) (v := s0 98 13) rfl rfl rfl rfl rfl rfl (fun z14 hz14 => ?_)
          have tz14 := tf_98_13 I0
          refine h_zne (tg := 121) (pc' := 93) rfl rfl rfl hz14 (fun c15 => absurd c15 (by omega)) (fun c15 => ?_)
          refine h_aload_n (pc' := 94) rfl rfl rfl ?_
          refine h_getI (pc' := 97) (v := s0 98 8) rfl rfl rfl rfl rfl rfl (fun z16 hz16 => ?_)
          have tz16 := tf_98_8 I0
          refine h_aload_n (pc' := 98) rfl rfl rfl ?_
          refine h_getI (pc' := 101) (v := s0 98 5) rfl rfl rfl rfl rfl rfl (fun z17 hz17 => ?_)
          have tz17 := tf_98_5 I0
          refine h_cge (tg := 115) (pc' := 104) rfl rfl rfl hz16 hz17 (fun c18 => ?_) (fun c18 => ?_)
          · refine h_aload_n (pc' := 116) rfl rfl rfl ?_
            refine h_bipush (pc' := 118) (x := (Int32.ofInt 6)) rfl rfl cb_6 ?_
            refine h_call (sp := false) (pc' := 121) (M := [(0, .ref 98), (1, .int (Int32.ofInt 6))]) rfl rfl rfl rfl rfl rfl rfl rfl ?_
            refine h_aload_n (pc' := 1) rfl rfl rfl ?_
            refine h_getI (pc' := 4) (v := s0 98 13) rfl rfl rfl rfl rfl rfl (fun z19 hz19 => ?_)
            have tz19 := tf_98_13 I0
            refine h_zne (tg := 20) (pc' := 7) rfl rfl rfl hz19 (fun c20 => absurd c20 (by omega)) (fun c20 => ?_)
            refine h_aload_n (pc' := 8) rfl rfl rfl ?_
            refine h_iload_n (pc' := 9) rfl rfl rfl ?_
            refine h_put (pc' := 12) rfl rfl rfl rfl rfl rfl ci_6 rfl ?_
            have Is21 : h_I (h_up s0 98 13 6) := (if_98_13 I0 (by omega))
            have Fs21 := (F0_.up (q := 98) (a := 13) (v := 6) rfl)
            have es21_0 : h_up s0 98 13 6 98 15 = s0 98 15 := rfl
            have es21_1 : h_up s0 98 13 6 98 17 = s0 98 17 := rfl
            have es21_2 : h_up s0 98 13 6 98 13 = 6 := rfl
            have es21_3 : h_up s0 98 13 6 64 1 = s0 64 1 := rfl
            have es21_4 : h_up s0 98 13 6 98 11 = s0 98 11 := rfl
            generalize h_up s0 98 13 6 = s21 at Is21 Fs21 es21_0 es21_1 es21_2 es21_3 es21_4 ⊢
            refine h_aload_n (pc' := 13) rfl rfl rfl ?_
            refine h_aload_n (pc' := 14) rfl rfl rfl ?_
            refine h_getI (pc' := 17) (v := s21 98 16) rfl rfl rfl rfl rfl rfl (fun z22 hz22 => ?_)
            have tz22 := tf_98_16 Is21
            refine h_put (pc' := 20) rfl rfl rfl rfl rfl rfl hz22 rfl ?_
            have Is23 : h_I (h_up s21 98 14 (s21 98 16)) := (if_98_14 Is21 (h_rgv hz22))
            have Fs23 := (Fs21.up (q := 98) (a := 14) (v := (s21 98 16)) rfl)
            have es23_0 : h_up s21 98 14 (s21 98 16) 98 15 = s21 98 15 := rfl
            have es23_1 : h_up s21 98 14 (s21 98 16) 98 17 = s21 98 17 := rfl
            have es23_2 : h_up s21 98 14 (s21 98 16) 98 13 = s21 98 13 := rfl
            have es23_3 : h_up s21 98 14 (s21 98 16) 64 1 = s21 64 1 := rfl
            have es23_4 : h_up s21 98 14 (s21 98 16) 98 11 = s21 98 11 := rfl
            generalize h_up s21 98 14 (s21 98 16) = s23 at Is23 Fs23 es23_0 es23_1 es23_2 es23_3 es23_4 ⊢
            refine h_vret rfl rfl (h_Kn ?_)
            refine h_aload_n (pc' := 122) rfl rfl rfl ?_
            refine h_iconst (pc' := 123) (x := (Int32.ofInt 0)) rfl rfl rfl ?_
            refine h_put (pc' := 126) rfl rfl rfl rfl rfl rfl ci_0 rfl ?_
            have Is24 : h_I (h_up s23 98 11 0) := (if_98_11 Is23 (by omega))
            have Fs24 := (Fs23.up (q := 98) (a := 11) (v := 0) rfl)
            have es24_0 : h_up s23 98 11 0 98 15 = s23 98 15 := rfl
            have es24_1 : h_up s23 98 11 0 98 17 = s23 98 17 := rfl
            have es24_2 : h_up s23 98 11 0 98 13 = s23 98 13 := rfl
            have es24_3 : h_up s23 98 11 0 64 1 = s23 64 1 := rfl
            have es24_4 : h_up s23 98 11 0 98 11 = 0 := rfl
            generalize h_up s23 98 11 0 = s24 at Is24 Fs24 es24_0 es24_1 es24_2 es24_3 es24_4 ⊢
            refine h_aload_n (pc' := 127) rfl rfl rfl ?_
            refine h_aload_n (pc' := 128) rfl rfl rfl ?_
            refine h_getI (pc' := 131) (v := s24 98 13) rfl rfl rfl rfl rfl rfl (fun z25 hz25 => ?_)
            have tz25 := tf_98_13 Is24
            refine h_put (pc' := 134) rfl rfl rfl rfl rfl rfl hz25 rfl ?_
            have Is26 : h_I (h_up s24 98 12 (s24 98 13)) := (if_98_12 Is24 (h_rgv hz25))
            have Fs26 := (Fs24.up (q := 98) (a := 12) (v := (s24 98 13)) rfl)
            have es26_0 : h_up s24 98 12 (s24 98 13) 98 15 = s24 98 15 := rfl
            have es26_1 : h_up s24 98 12 (s24 98 13) 98 17 = s24 98 17 := rfl
            have es26_2 : h_up s24 98 12 (s24 98 13) 98 13 = s24 98 13 := rfl
            have es26_3 : h_up s24 98 12 (s24 98 13) 64 1 = s24 64 1 := rfl
            have es26_4 : h_up s24 98 12 (s24 98 13) 98 11 = s24 98 11 := rfl
            generalize h_up s24 98 12 (s24 98 13) = s26 at Is26 Fs26 es26_0 es26_1 es26_2 es26_3 es26_4 ⊢
            refine h_aload_n (pc' := 135) rfl rfl rfl ?_
            refine h_getI (pc' := 138) (v := s26 98 13) rfl rfl rfl rfl rfl rfl (fun z27 hz27 => ?_)
            have tz27 := tf_98_13 Is26
            refine h_zle (tg := 149) (pc' := 141) rfl rfl rfl hz27 (fun c28 => absurd c28 (by omega)) (fun c28 => ?_)
            refine h_bipush (pc' := 143) (x := (Int32.ofInt (-10))) rfl rfl cb_m10 ?_
            refine h_aload_n (pc' := 144) rfl rfl rfl ?_
            refine h_getI (pc' := 147) (v := s26 98 14) rfl rfl rfl rfl rfl rfl (fun z29 hz29 => ?_)
            have tz29 := tf_98_14 Is26
            refine h_isubA (pc' := 148) rfl rfl (fun z30 hz30 => ?_)
            exact h_iret rfl rfl (kk _ _ rfl _ Is26 Fs26 (by omega) (by omega))
          · refine h_aload_n (pc' := 105) rfl rfl rfl ?_
            refine h_getI (pc' := 108) (v := s0 98 9) rfl rfl rfl rfl rfl rfl (fun z31 hz31 => ?_)
            have tz31 := tf_98_9 I0
            refine h_aload_n (pc' := 109) rfl rfl rfl ?_
            refine h_getI (pc' := 112) (v := s0 98 6) rfl rfl rfl rfl rfl rfl (fun z32 hz32 => ?_)
            have tz32 := tf_98_6 I0
            refine h_clt (tg := 121) (pc' := 115) rfl rfl rfl hz31 hz32 (fun c33 => ?_) (fun c33 => ?_)
            · refine h_aload_n (pc' := 122) rfl rfl rfl ?_
              refine h_iconst (pc' := 123) (x := (Int32.ofInt 0)) rfl rfl rfl ?_
              refine h_put (pc' := 126) rfl rfl rfl rfl rfl rfl ci_0 rfl ?_
              have Is34 : h_I (h_up s0 98 11 0) := (if_98_11 I0 (by omega))
              have Fs34 := (F0_.up (q := 98) (a := 11) (v := 0) rfl)
              have es34_0 : h_up s0 98 11 0 98 15 = s0 98 15 := rfl
              have es34_1 : h_up s0 98 11 0 98 17 = s0 98 17 := rfl
              have es34_2 : h_up s0 98 11 0 98 13 = s0 98 13 := rfl
              have es34_3 : h_up s0 98 11 0 64 1 = s0 64 1 := rfl
              have es34_4 : h_up s0 98 11 0 98 11 = 0 := rfl
              generalize h_up s0 98 11 0 = s34 at Is34 Fs34 es34_0 es34_1 es34_2 es34_3 es34_4 ⊢
              refine h_aload_n (pc' := 127) rfl rfl rfl ?_
              refine h_aload_n (pc' := 128) rfl rfl rfl ?_
              refine h_getI (pc' := 131) (v := s34 98 13) rfl rfl rfl rfl rfl rfl (fun z35 hz35 => ?_)
              have tz35 := tf_98_13 Is34
              refine h_put (pc' := 134) rfl rfl rfl rfl rfl rfl hz35 rfl ?_
              have Is36 : h_I (h_up s34 98 12 (s34 98 13)) := (if_98_12 Is34 (h_rgv hz35))
              have Fs36 := (Fs34.up (q := 98) (a := 12) (v := (s34 98 13)) rfl)
              have es36_0 : h_up s34 98 12 (s34 98 13) 98 15 = s34 98 15 := rfl
              have es36_1 : h_up s34 98 12 (s34 98 13) 98 17 = s34 98 17 := rfl
              have es36_2 : h_up s34 98 12 (s34 98 13) 98 13 = s34 98 13 := rfl
              have es36_3 : h_up s34 98 12 (s34 98 13) 64 1 = s34 64 1 := rfl
              have es36_4 : h_up s34 98 12 (s34 98 13) 98 11 = s34 98 11 := rfl
              generalize h_up s34 98 12 (s34 98 13) = s36 at Is36 Fs36 es36_0 es36_1 es36_2 es36_3 es36_4 ⊢
              refine h_aload_n (pc' := 135) rfl rfl rfl ?_
              refine h_getI (pc' := 138) (v := s36 98 13) rfl rfl rfl rfl rfl rfl (fun z37 hz37 => ?_)
              have tz37 := tf_98_13 Is36
              refine h_zle (tg := 149) (pc' := 141) rfl rfl rfl hz37 (fun c38 => ?_) (fun c38 => absurd c38 (by omega))
              refine h_iconst (pc' := 150) (x := (Int32.ofInt 0)) rfl rfl rfl ?_
              refine h_istore_n (pc' := 151) (M := [(2, .int (Int32.ofInt 0)), (0, .ref 98), (1, .int y1)]) rfl rfl rfl rfl ?_
              exact h_wk [(0, .ref 98), (1, .int y1), (2, .int (Int32.ofInt 0))] ⟨rfl, rfl, rfl, trivial⟩ (ih.2.2 _ Is36 Fs36 y1 _ hy1 (Int32.ofInt 0) _ ci_0 (by omega) (by omega) (by omega))
            · refine h_aload_n (pc' := 116) rfl rfl rfl ?_
              refine h_bipush (pc' := 118) (x := (Int32.ofInt 6)) rfl rfl cb_6 ?_
              refine h_call (sp := false) (pc' := 121) (M := [(0, .ref 98), (1, .int (Int32.ofInt 6))]) rfl rfl rfl rfl rfl rfl rfl rfl ?_
              refine h_aload_n (pc' := 1) rfl rfl rfl ?_
              refine h_getI (pc' := 4) (v := s0 98 13) rfl rfl rfl rfl rfl rfl (fun z39 hz39 => ?_)
              have tz39 := tf_98_13 I0
              refine h_zne (tg := 20) (pc' := 7) rfl rfl rfl hz39 (fun c40 => absurd c40 (by omega)) (fun c40 => ?_)
              refine h_aload_n (pc' := 8) rfl rfl rfl ?_
              refine h_iload_n (pc' := 9) rfl rfl rfl ?_
              refine h_put (pc' := 12) rfl rfl rfl rfl rfl rfl ci_6 rfl ?_
              have Is41 : h_I (h_up s0 98 13 6) := (if_98_13 I0 (by omega))
              have Fs41 := (F0_.up (q := 98) (a := 13) (v := 6) rfl)
              have es41_0 : h_up s0 98 13 6 98 15 = s0 98 15 := rfl
              have es41_1 : h_up s0 98 13 6 98 17 = s0 98 17 := rfl
              have es41_2 : h_up s0 98 13 6 98 13 = 6 := rfl
              have es41_3 : h_up s0 98 13 6 64 1 = s0 64 1 := rfl
              have es41_4 : h_up s0 98 13 6 98 11 = s0 98 11 := rfl
              generalize h_up s0 98 13 6 = s41 at Is41 Fs41 es41_0 es41_1 es41_2 es41_3 es41_4 ⊢
              refine h_aload_n (pc' := 13) rfl rfl rfl ?_
              refine h_aload_n (pc' := 14) rfl rfl rfl ?_
              refine h_getI (pc' := 17) (v := s41 98 16) rfl rfl rfl rfl rfl rfl (fun z42 hz42 => ?_)
              have tz42 := tf_98_16 Is41
              refine h_put (pc' := 20) rfl rfl rfl rfl rfl rfl hz42 rfl ?_
              have Is43 : h_I (h_up s41 98 14 (s41 98 16)) := (if_98_14 Is41 (h_rgv hz42))
              have Fs43 := (Fs41.up (q := 98) (a := 14) (v := (s41 98 16)) rfl)
              have es43_0 : h_up s41 98 14 (s41 98 16) 98 15 = s41 98 15 := rfl
              have es43_1 : h_up s41 98 14 (s41 98 16) 98 17 = s41 98 17 := rfl
              have es43_2 : h_up s41 98 14 (s41 98 16) 98 13 = s41 98 13 := rfl
              have es43_3 : h_up s41 98 14 (s41 98 16) 64 1 = s41 64 1 := rfl
              have es43_4 : h_up s41 98 14 (s41 98 16) 98 11 = s41 98 11 := rfl
              generalize h_up s41 98 14 (s41 98 16) = s43 at Is43 Fs43 es43_0 es43_1 es43_2 es43_3 es43_4 ⊢
              refine h_vret rfl rfl (h_Kn ?_)
              refine h_aload_n (pc' := 122) rfl rfl rfl ?_
              refine h_iconst (pc' := 123) (x := (Int32.ofInt 0)) rfl rfl rfl ?_
              refine h_put (pc' := 126) rfl rfl rfl rfl rfl rfl ci_0 rfl ?_
              have Is44 : h_I (h_up s43 98 11 0) := (if_98_11 Is43 (by omega))
              have Fs44 := (Fs43.up (q := 98) (a := 11) (v := 0) rfl)
              have es44_0 : h_up s43 98 11 0 98 15 = s43 98 15 := rfl
              have es44_1 : h_up s43 98 11 0 98 17 = s43 98 17 := rfl
              have es44_2 : h_up s43 98 11 0 98 13 = s43 98 13 := rfl
              have es44_3 : h_up s43 98 11 0 64 1 = s43 64 1 := rfl
              have es44_4 : h_up s43 98 11 0 98 11 = 0 := rfl
              generalize h_up s43 98 11 0 = s44 at Is44 Fs44 es44_0 es44_1 es44_2 es44_3 es44_4 ⊢
              refine h_aload_n (pc' := 127) rfl rfl rfl ?_
              refine h_aload_n (pc' := 128) rfl rfl rfl ?_
              refine h_getI (pc' := 131) (v := s44 98 13) rfl rfl rfl rfl rfl rfl (fun z45 hz45 => ?_)
              have tz45 := tf_98_13 Is44
              refine h_put (pc' := 134) rfl rfl rfl rfl rfl rfl hz45 rfl ?_
              have Is46 : h_I (h_up s44 98 12 (s44 98 13)) := (if_98_12 Is44 (h_rgv hz45))
              have Fs46 := (Fs44.up (q := 98) (a := 12) (v := (s44 98 13)) rfl)
              have es46_0 : h_up s44 98 12 (s44 98 13) 98 15 = s44 98 15 := rfl
              have es46_1 : h_up s44 98 12 (s44 98 13) 98 17 = s44 98 17 := rfl
              have es46_2 : h_up s44 98 12 (s44 98 13) 98 13 = s44 98 13 := rfl
              have es46_3 : h_up s44 98 12 (s44 98 13) 64 1 = s44 64 1 := rfl
              have es46_4 : h_up s44 98 12 (s44 98 13) 98 11 = s44 98 11 := rfl
              generalize h_up s44 98 12 (s44 98 13) = s46 at Is46 Fs46 es46_0 es46_1 es46_2 es46_3 es46_4 ⊢
              refine h_aload_n (pc' := 135) rfl rfl rfl ?_
              refine h_getI (pc' := 138) (v := s46 98 13) rfl rfl rfl rfl rfl rfl (fun z47 hz47 => ?_)
              have tz47 := tf_98_13 Is46
              refine h_zle (tg := 149) (pc' := 141) rfl rfl rfl hz47 (fun c48 => absurd c48 (by omega)) (fun c48 => ?_)
              refine h_bipush (pc' := 143) (x := (Int32.ofInt (-10))) rfl rfl cb_m10 ?_
              refine h_aload_n (pc' := 144) rfl rfl rfl ?_
              refine h_getI (pc' := 147) (v := s46 98 14) rfl rfl rfl rfl rfl rfl (fun z49 hz49 => ?_)
              have tz49 := tf_98_14 Is46
              refine h_isubA (pc' := 148) rfl rfl (fun z50 hz50 => ?_)
              exact h_iret rfl rfl (kk _ _ rfl _ Is46 Fs46 (by omega) (by omega))
        · refine h_aload_n (pc' := 77) rfl rfl rfl ?_
          refine h_call (sp := false) (pc' := 80) (M := [(0, .ref 98)]) rfl rfl rfl rfl rfl rfl rfl rfl ?_
          refine v_readLine _ I0  (fun s52 Is52 Gs52 ps52_0 ps52_1 => h_Kn ?_)
          have Fs52 := (Gs52.t1).tr F0_
          have es52_3 : s52 64 1 = s0 64 1 := Gs52 64 1 rfl
          have es52_4 : s52 98 11 = s0 98 11 := Gs52 98 11 rfl
          refine h_iincA (pc' := 83) (M := fun z53 => [(1, .int z53), (0, .ref 98), (2, .int y2)]) rfl rfl rfl rfl (fun _ => rfl) (fun z53 hz53 => ?_)
          refine h_goto (pc' := 62) rfl rfl ?_
          exact h_wk [(0, .ref 98), (1, .int z53), (2, .int y2)] ⟨rfl, rfl, rfl, trivial⟩ (ih.2.1 _ Is52 Fs52 z53 _ rfl y2 _ hy2 (by omega) (by omega) (by omega))
    · intro s0 I0 F0_ y1 b1 hy1 y2 b2 hy2 ry2 ex0 hm
      refine h_iload_n (pc' := 152) rfl rfl rfl ?_
      refine h_bipush (pc' := 154) (x := (Int32.ofInt 44)) rfl rfl cb_44 ?_
      refine h_cge (tg := 175) (pc' := 157) rfl rfl rfl hy2 ci_44 (fun c1 => ?_) (fun c1 => ?_)
      · refine h_aload_n (pc' := 176) rfl rfl rfl ?_
        refine h_aload_n (pc' := 177) rfl rfl rfl ?_
        refine h_getI (pc' := 180) (v := s0 98 5) rfl rfl rfl rfl rfl rfl (fun z2 hz2 => ?_)
        have tz2 := tf_98_5 I0
        refine h_put (pc' := 183) rfl rfl rfl rfl rfl rfl hz2 rfl ?_
        have Is3 : h_I (h_up s0 98 1 (s0 98 5)) := (if_98_1 I0 (by omega))
        have Fs3 := (F0_.up (q := 98) (a := 1) (v := (s0 98 5)) rfl)
        have es3_0 : h_up s0 98 1 (s0 98 5) 98 15 = s0 98 15 := rfl
        have es3_1 : h_up s0 98 1 (s0 98 5) 98 17 = s0 98 17 := rfl
        have es3_2 : h_up s0 98 1 (s0 98 5) 98 13 = s0 98 13 := rfl
        have es3_3 : h_up s0 98 1 (s0 98 5) 64 1 = s0 64 1 := rfl
        have es3_4 : h_up s0 98 1 (s0 98 5) 98 11 = s0 98 11 := rfl
        generalize h_up s0 98 1 (s0 98 5) = s3 at Is3 Fs3 es3_0 es3_1 es3_2 es3_3 es3_4 ⊢
        refine h_aload_n (pc' := 184) rfl rfl rfl ?_
        refine h_aload_n (pc' := 185) rfl rfl rfl ?_
        refine h_getI (pc' := 188) (v := s3 98 6) rfl rfl rfl rfl rfl rfl (fun z4 hz4 => ?_)
        have tz4 := tf_98_6 Is3
        refine h_put (pc' := 191) rfl rfl rfl rfl rfl rfl hz4 rfl ?_
        have Is5 : h_I (h_up s3 98 2 (s3 98 6)) := (if_98_2 Is3 (by omega))
        have Fs5 := (Fs3.up (q := 98) (a := 2) (v := (s3 98 6)) rfl)
        have es5_0 : h_up s3 98 2 (s3 98 6) 98 15 = s3 98 15 := rfl
        have es5_1 : h_up s3 98 2 (s3 98 6) 98 17 = s3 98 17 := rfl
        have es5_2 : h_up s3 98 2 (s3 98 6) 98 13 = s3 98 13 := rfl
        have es5_3 : h_up s3 98 2 (s3 98 6) 64 1 = s3 64 1 := rfl
        have es5_4 : h_up s3 98 2 (s3 98 6) 98 11 = s3 98 11 := rfl
        generalize h_up s3 98 2 (s3 98 6) = s5 at Is5 Fs5 es5_0 es5_1 es5_2 es5_3 es5_4 ⊢
        refine h_aload_n (pc' := 192) rfl rfl rfl ?_
        refine h_iconst (pc' := 193) (x := (Int32.ofInt 0)) rfl rfl rfl ?_
        refine h_put (pc' := 196) rfl rfl rfl rfl rfl rfl ci_0 rfl ?_
        have Is6 : h_I (h_up s5 98 29 0) := (if_98_29 Is5 (by omega))
        have Fs6 := (Fs5.up (q := 98) (a := 29) (v := 0) rfl)
        have es6_0 : h_up s5 98 29 0 98 15 = s5 98 15 := rfl
        have es6_1 : h_up s5 98 29 0 98 17 = s5 98 17 := rfl
        have es6_2 : h_up s5 98 29 0 98 13 = s5 98 13 := rfl
        have es6_3 : h_up s5 98 29 0 64 1 = s5 64 1 := rfl
        have es6_4 : h_up s5 98 29 0 98 11 = s5 98 11 := rfl
        generalize h_up s5 98 29 0 = s6 at Is6 Fs6 es6_0 es6_1 es6_2 es6_3 es6_4 ⊢
        refine h_aload_n (pc' := 197) rfl rfl rfl ?_
        refine h_getR (pc' := 200) rfl rfl rfl rfl rfl ?_
        refine h_iconst (pc' := 201) (x := (Int32.ofInt 0)) rfl rfl rfl ?_
        refine h_iconst (pc' := 202) (x := (Int32.ofInt 0)) rfl rfl rfl ?_
        refine h_bast (pc' := 203) rfl rfl rfl rfl ci_0 (by omega) (by omega) ci_0 (by omega) ?_
        have Is7 : h_I (h_up s6 110 0 0) := (in_110 Is6 (by omega))
        have Fs7 := (Fs6.up (q := 110) (a := 0) (v := 0) rfl)
        have es7_0 : h_up s6 110 0 0 98 15 = s6 98 15 := rfl
        have es7_1 : h_up s6 110 0 0 98 17 = s6 98 17 := rfl
        have es7_2 : h_up s6 110 0 0 98 13 = s6 98 13 := rfl
        have es7_3 : h_up s6 110 0 0 64 1 = s6 64 1 := rfl
        have es7_4 : h_up s6 110 0 0 98 11 = s6 98 11 := rfl
        generalize h_up s6 110 0 0 = s7 at Is7 Fs7 es7_0 es7_1 es7_2 es7_3 es7_4 ⊢
        refine h_aload_n (pc' := 204) rfl rfl rfl ?_
        refine h_getR (pc' := 207) rfl rfl rfl rfl rfl ?_
        refine h_iconst (pc' := 208) (x := (Int32.ofInt 1)) rfl rfl rfl ?_
        refine h_iconst (pc' := 209) (x := (Int32.ofInt 0)) rfl rfl rfl ?_
        refine h_bast (pc' := 210) rfl rfl rfl rfl ci_1 (by omega) (by omega) ci_0 (by omega) ?_
        have Is8 : h_I (h_up s7 110 1 0) := (in_110 Is7 (by omega))
        have Fs8 := (Fs7.up (q := 110) (a := 1) (v := 0) rfl)
        have es8_0 : h_up s7 110 1 0 98 15 = s7 98 15 := rfl
        have es8_1 : h_up s7 110 1 0 98 17 = s7 98 17 := rfl
        have es8_2 : h_up s7 110 1 0 98 13 = s7 98 13 := rfl
        have es8_3 : h_up s7 110 1 0 64 1 = s7 64 1 := rfl
        have es8_4 : h_up s7 110 1 0 98 11 = s7 98 11 := rfl
        generalize h_up s7 110 1 0 = s8 at Is8 Fs8 es8_0 es8_1 es8_2 es8_3 es8_4 ⊢
        refine h_iload_n (pc' := 211) rfl rfl rfl ?_
        exact h_iret rfl rfl (kk _ _ hy1 _ Is8 Fs8 (by omega) (by omega))
      · refine h_aload_n (pc' := 158) rfl rfl rfl ?_
        refine h_getR (pc' := 161) rfl rfl rfl rfl rfl ?_
        refine h_iload_n (pc' := 162) rfl rfl rfl ?_
        refine h_aload_n (pc' := 163) rfl rfl rfl ?_
        refine h_getR (pc' := 166) rfl rfl rfl rfl rfl ?_
        refine h_iload_n (pc' := 167) rfl rfl rfl ?_
        refine h_iald (pc' := 168) (v := s0 101 b2) rfl rfl rfl hy2 (by omega) (by omega) rfl (fun z9 hz9 => ?_)
        have tz9 := h_rng z9
        rw [hz9] at tz9
        refine h_iast (pc' := 169) rfl rfl rfl rfl hy2 (by omega) (by omega) hz9 ?_
        have Is10 : h_I (h_up s0 99 b2 (s0 101 b2)) := (im_99 (i := b2) I0 (by omega) (I0 101 b2))
        have Fs10 := (F0_.up (q := 99) (a := b2) (v := (s0 101 b2)) rfl)
        have es10_0 : h_up s0 99 b2 (s0 101 b2) 98 15 = s0 98 15 := rfl
        have es10_1 : h_up s0 99 b2 (s0 101 b2) 98 17 = s0 98 17 := rfl
        have es10_2 : h_up s0 99 b2 (s0 101 b2) 98 13 = s0 98 13 := rfl
        have es10_3 : h_up s0 99 b2 (s0 101 b2) 64 1 = s0 64 1 := rfl
        have es10_4 : h_up s0 99 b2 (s0 101 b2) 98 11 = s0 98 11 := rfl
        generalize h_up s0 99 b2 (s0 101 b2) = s10 at Is10 Fs10 es10_0 es10_1 es10_2 es10_3 es10_4 ⊢
        refine h_iinc (pc' := 172) (M := fun z11 => [(2, .int z11), (0, .ref 98), (1, .int y1)]) rfl rfl rfl rfl hy2 ci_1 rfl (by omega) (by omega) (fun _ => rfl) (fun z11 hz11 => ?_)
        refine h_goto (pc' := 151) rfl rfl ?_
        exact h_wk [(0, .ref 98), (1, .int y1), (2, .int z11)] ⟨rfl, rfl, rfl, trivial⟩ (ih.2.2 _ Is10 Fs10 y1 _ hy1 z11 _ hz11 (by omega) (by omega) (by omega))
theorem v_textM {ns : Nat} (σ : h_S) (hI : h_I σ) {Q : Option Value → h_S → Prop} (kk : ∀ (r : Int32) (b : Int) (hb : r.toInt = b) (τ : h_S), h_I τ → h_F k_tp τ σ → (τ 98 11 = 0) → (τ 64 1 = σ 64 1) → Q (some (.int r)) τ) : h_T g_P (g_Y ns) 155 0 [(0, .ref 98)] [] σ Q := by
  have F00 : h_F k_tp σ σ := h_F.rf
  refine h_aload_n (pc' := 1) rfl rfl rfl ?_
  refine h_iconst (pc' := 2) (x := (Int32.ofInt 0)) rfl rfl rfl ?_
  refine h_put (pc' := 5) rfl rfl rfl rfl rfl rfl ci_0 rfl ?_
  have Is1 : h_I (h_up σ 98 13 0) := (if_98_13 hI (by omega))
  have Fs1 := (F00.up (q := 98) (a := 13) (v := 0) rfl)
  have es1_0 : h_up σ 98 13 0 98 15 = σ 98 15 := rfl
  have es1_1 : h_up σ 98 13 0 98 17 = σ 98 17 := rfl
  have es1_2 : h_up σ 98 13 0 98 13 = 0 := rfl
  have es1_3 : h_up σ 98 13 0 64 1 = σ 64 1 := rfl
  have es1_4 : h_up σ 98 13 0 98 11 = σ 98 11 := rfl
  generalize h_up σ 98 13 0 = s1 at Is1 Fs1 es1_0 es1_1 es1_2 es1_3 es1_4 ⊢
  refine h_aload_n (pc' := 6) rfl rfl rfl ?_
  refine h_iconst (pc' := 7) (x := (Int32.ofInt 0)) rfl rfl rfl ?_
  refine h_put (pc' := 10) rfl rfl rfl rfl rfl rfl ci_0 rfl ?_
  have Is2 : h_I (h_up s1 98 15 0) := (if_98_15 Is1 (by omega))
  have Fs2 := (Fs1.up (q := 98) (a := 15) (v := 0) rfl)
  have es2_0 : h_up s1 98 15 0 98 15 = 0 := rfl
  have es2_1 : h_up s1 98 15 0 98 17 = s1 98 17 := rfl
  have es2_2 : h_up s1 98 15 0 98 13 = s1 98 13 := rfl
  have es2_3 : h_up s1 98 15 0 64 1 = s1 64 1 := rfl
  have es2_4 : h_up s1 98 15 0 98 11 = s1 98 11 := rfl
  generalize h_up s1 98 15 0 = s2 at Is2 Fs2 es2_0 es2_1 es2_2 es2_3 es2_4 ⊢
  refine h_aload_n (pc' := 11) rfl rfl rfl ?_
  refine h_iconst (pc' := 12) (x := (Int32.ofInt 0)) rfl rfl rfl ?_
  refine h_put (pc' := 15) rfl rfl rfl rfl rfl rfl ci_0 rfl ?_
  have Is3 : h_I (h_up s2 98 5 0) := (if_98_5 Is2 (by omega))
  have Fs3 := (Fs2.up (q := 98) (a := 5) (v := 0) rfl)
  have es3_0 : h_up s2 98 5 0 98 15 = s2 98 15 := rfl
  have es3_1 : h_up s2 98 5 0 98 17 = s2 98 17 := rfl
  have es3_2 : h_up s2 98 5 0 98 13 = s2 98 13 := rfl
  have es3_3 : h_up s2 98 5 0 64 1 = s2 64 1 := rfl
  have es3_4 : h_up s2 98 5 0 98 11 = s2 98 11 := rfl
  generalize h_up s2 98 5 0 = s3 at Is3 Fs3 es3_0 es3_1 es3_2 es3_3 es3_4 ⊢
  refine h_aload_n (pc' := 16) rfl rfl rfl ?_
  refine h_iconst (pc' := 17) (x := (Int32.ofInt 0)) rfl rfl rfl ?_
  refine h_put (pc' := 20) rfl rfl rfl rfl rfl rfl ci_0 rfl ?_
  have Is4 : h_I (h_up s3 98 6 0) := (if_98_6 Is3 (by omega))
  have Fs4 := (Fs3.up (q := 98) (a := 6) (v := 0) rfl)
  have es4_0 : h_up s3 98 6 0 98 15 = s3 98 15 := rfl
  have es4_1 : h_up s3 98 6 0 98 17 = s3 98 17 := rfl
  have es4_2 : h_up s3 98 6 0 98 13 = s3 98 13 := rfl
  have es4_3 : h_up s3 98 6 0 64 1 = s3 64 1 := rfl
  have es4_4 : h_up s3 98 6 0 98 11 = s3 98 11 := rfl
  generalize h_up s3 98 6 0 = s4 at Is4 Fs4 es4_0 es4_1 es4_2 es4_3 es4_4 ⊢
  refine h_aload_n (pc' := 21) rfl rfl rfl ?_
  refine h_iconst (pc' := 22) (x := (Int32.ofInt 0)) rfl rfl rfl ?_
  refine h_put (pc' := 25) rfl rfl rfl rfl rfl rfl ci_0 (h_fb ci_0 (by omega)) ?_
  have Is5 : h_I (h_up s4 98 7 0) := (if_98_7 Is4 (by omega))
  have Fs5 := (Fs4.up (q := 98) (a := 7) (v := 0) rfl)
  have es5_0 : h_up s4 98 7 0 98 15 = s4 98 15 := rfl
  have es5_1 : h_up s4 98 7 0 98 17 = s4 98 17 := rfl
  have es5_2 : h_up s4 98 7 0 98 13 = s4 98 13 := rfl
  have es5_3 : h_up s4 98 7 0 64 1 = s4 64 1 := rfl
  have es5_4 : h_up s4 98 7 0 98 11 = s4 98 11 := rfl
  generalize h_up s4 98 7 0 = s5 at Is5 Fs5 es5_0 es5_1 es5_2 es5_3 es5_4 ⊢
  refine h_aload_n (pc' := 26) rfl rfl rfl ?_
  refine h_iconst (pc' := 27) (x := (Int32.ofInt (-1))) rfl rfl rfl ?_
  refine h_put (pc' := 30) rfl rfl rfl rfl rfl rfl ci_m1 rfl ?_
  have Is6 : h_I (h_up s5 98 8 (-1)) := (if_98_8 Is5 (by omega))
  have Fs6 := (Fs5.up (q := 98) (a := 8) (v := (-1)) rfl)
  have es6_0 : h_up s5 98 8 (-1) 98 15 = s5 98 15 := rfl
  have es6_1 : h_up s5 98 8 (-1) 98 17 = s5 98 17 := rfl
  have es6_2 : h_up s5 98 8 (-1) 98 13 = s5 98 13 := rfl
  have es6_3 : h_up s5 98 8 (-1) 64 1 = s5 64 1 := rfl
  have es6_4 : h_up s5 98 8 (-1) 98 11 = s5 98 11 := rfl
  generalize h_up s5 98 8 (-1) = s6 at Is6 Fs6 es6_0 es6_1 es6_2 es6_3 es6_4 ⊢
  refine h_aload_n (pc' := 31) rfl rfl rfl ?_
  refine h_iconst (pc' := 32) (x := (Int32.ofInt (-1))) rfl rfl rfl ?_
  refine h_put (pc' := 35) rfl rfl rfl rfl rfl rfl ci_m1 rfl ?_
  have Is7 : h_I (h_up s6 98 9 (-1)) := (if_98_9 Is6 (by omega))
  have Fs7 := (Fs6.up (q := 98) (a := 9) (v := (-1)) rfl)
  have es7_0 : h_up s6 98 9 (-1) 98 15 = s6 98 15 := rfl
  have es7_1 : h_up s6 98 9 (-1) 98 17 = s6 98 17 := rfl
  have es7_2 : h_up s6 98 9 (-1) 98 13 = s6 98 13 := rfl
  have es7_3 : h_up s6 98 9 (-1) 64 1 = s6 64 1 := rfl
  have es7_4 : h_up s6 98 9 (-1) 98 11 = s6 98 11 := rfl
  generalize h_up s6 98 9 (-1) = s7 at Is7 Fs7 es7_0 es7_1 es7_2 es7_3 es7_4 ⊢
  refine h_iconst (pc' := 36) (x := (Int32.ofInt 0)) rfl rfl rfl ?_
  refine h_istore_n (pc' := 37) (M := [(1, .int (Int32.ofInt 0)), (0, .ref 98)]) rfl rfl rfl rfl ?_
  refine h_iconst (pc' := 38) (x := (Int32.ofInt 0)) rfl rfl rfl ?_
  refine h_istore_n (pc' := 39) (M := [(2, .int (Int32.ofInt 0)), (1, .int (Int32.ofInt 0)), (0, .ref 98)]) rfl rfl rfl rfl ?_
  exact h_wk [(0, .ref 98), (1, .int (Int32.ofInt 0)), (2, .int (Int32.ofInt 0))] ⟨rfl, rfl, rfl, trivial⟩ ((v_textM_l ns σ hI  kk 1000000000000).1 _ Is7 Fs7 (Int32.ofInt 0) _ ci_0 (by omega) (Int32.ofInt 0) _ ci_0 (by omega) (by omega) (by omega))
theorem v_feedM {ns : Nat} (σ : h_S) (hI : h_I σ) (x0 : Int32) (a0 : Int) (hx0 : x0.toInt = a0) {Q : Option Value → h_S → Prop} (kk : ∀ (r : Int32) (b : Int) (hb : r.toInt = b) (τ : h_S), h_I τ → h_F k_tp τ σ → ((-3) ≤ b ∧ b ≤ 160) → ((0 ≤ a0 ∧ a0 ≤ 127 ∧ σ 98 11 ≤ 159 ∧ τ 98 11 = σ 98 11 + 1 ∧ b = σ 98 11 + 1) ∨ ((a0 < 0 ∨ 127 < a0) ∧ b = -1 ∧ τ 98 11 = σ 98 11) ∨ (0 ≤ a0 ∧ a0 ≤ 127 ∧ σ 98 11 = 160 ∧ b = -3 ∧ τ 98 11 = σ 98 11)) → (τ 64 1 = σ 64 1) → Q (some (.int r)) τ) : h_T g_P (g_Y ns) 143 0 [(0, .ref 98), (1, .int x0)] [] σ Q := by
  have F00 : h_F k_tp σ σ := h_F.rf
  refine h_iload_n (pc' := 1) rfl rfl rfl ?_
  refine h_i2l (pc' := 2) rfl rfl hx0 (fun z1 hz1 => ?_)
  refine h_lconst (pc' := 3) (x := (Int64.ofInt 0)) rfl rfl rfl ?_
  refine h_ldc2 (pc' := 6) (x := (Int64.ofInt 127)) rfl rfl rfl ?_
  refine h_calls (pc' := 9) (M := [(0, .long z1), (2, .long (Int64.ofInt 0)), (4, .long (Int64.ofInt 127))]) rfl rfl rfl rfl rfl rfl ?_
  refine h_lload_n (pc' := 1) rfl rfl rfl ?_
  refine h_lload_n (pc' := 2) rfl rfl rfl ?_
  refine h_lcmp (pc' := 3) rfl rfl hz1 cl_0 (fun z2 hz2 => ?_)
  refine h_zlt (tg := 17) (pc' := 6) rfl rfl rfl rfl (fun c3 => ?_) (fun c3 => ?_)
  · refine h_iconst (pc' := 18) (x := (Int32.ofInt 0)) rfl rfl rfl ?_
    refine h_zret rfl rfl ci_0 (by omega) (h_Kv ?_)
    refine h_zne (tg := 14) (pc' := 12) rfl rfl rfl ci_0 (fun c4 => absurd c4 (by omega)) (fun c4 => ?_)
    refine h_iconst (pc' := 13) (x := (Int32.ofInt (-1))) rfl rfl rfl ?_
    exact h_iret rfl rfl (kk _ _ ci_m1 _ hI F00 (by omega) (by omega) (by omega))
  · refine h_lload_n (pc' := 7) rfl rfl rfl ?_
    refine h_lload (pc' := 9) rfl rfl rfl ?_
    refine h_lcmp (pc' := 10) rfl rfl hz1 cl_127 (fun z5 hz5 => ?_)
    refine h_zgt (tg := 17) (pc' := 13) rfl rfl rfl rfl (fun c6 => ?_) (fun c6 => ?_)
    · refine h_iconst (pc' := 18) (x := (Int32.ofInt 0)) rfl rfl rfl ?_
      refine h_zret rfl rfl ci_0 (by omega) (h_Kv ?_)
      refine h_zne (tg := 14) (pc' := 12) rfl rfl rfl ci_0 (fun c7 => absurd c7 (by omega)) (fun c7 => ?_)
      refine h_iconst (pc' := 13) (x := (Int32.ofInt (-1))) rfl rfl rfl ?_
      exact h_iret rfl rfl (kk _ _ ci_m1 _ hI F00 (by omega) (by omega) (by omega))
    · refine h_iconst (pc' := 14) (x := (Int32.ofInt 1)) rfl rfl rfl ?_
      refine h_goto (pc' := 18) rfl rfl ?_
      refine h_zret rfl rfl ci_1 (by omega) (h_Kv ?_)
      refine h_zne (tg := 14) (pc' := 12) rfl rfl rfl ci_1 (fun c8 => ?_) (fun c8 => absurd c8 (by omega))
      refine h_aload_n (pc' := 15) rfl rfl rfl ?_
      refine h_getI (pc' := 18) (v := σ 98 11) rfl rfl rfl rfl rfl rfl (fun z9 hz9 => ?_)
      have tz9 := tf_98_11 hI
      refine h_sipush (pc' := 21) (x := (Int32.ofInt 160)) rfl rfl cs_160 ?_
      refine h_cne (tg := 27) (pc' := 24) rfl rfl rfl hz9 ci_160 (fun c10 => ?_) (fun c10 => ?_)
      · refine h_aload_n (pc' := 28) rfl rfl rfl ?_
        refine h_getR (pc' := 31) rfl rfl rfl rfl rfl ?_
        refine h_aload_n (pc' := 32) rfl rfl rfl ?_
        refine h_getI (pc' := 35) (v := σ 98 11) rfl rfl rfl rfl rfl rfl (fun z11 hz11 => ?_)
        have tz11 := tf_98_11 hI
        refine h_iload_n (pc' := 36) rfl rfl rfl ?_
        refine h_iast (pc' := 37) rfl rfl rfl rfl hz11 (by omega) (by omega) hx0 ?_
        have Is12 : h_I (h_up σ 102 (σ 98 11) a0) := (in_102 hI (by omega))
        have Fs12 := (F00.up (q := 102) (a := (σ 98 11)) (v := a0) rfl)
        have es12_0 : h_up σ 102 (σ 98 11) a0 64 1 = σ 64 1 := rfl
        have es12_1 : h_up σ 102 (σ 98 11) a0 98 11 = σ 98 11 := rfl
        generalize h_up σ 102 (σ 98 11) a0 = s12 at Is12 Fs12 es12_0 es12_1 ⊢
        refine h_aload_n (pc' := 38) rfl rfl rfl ?_
        refine h_dup (pc' := 39) rfl rfl rfl ?_
        refine h_getI (pc' := 42) (v := s12 98 11) rfl rfl rfl rfl rfl rfl (fun z13 hz13 => ?_)
        have tz13 := tf_98_11 Is12
        refine h_iconst (pc' := 43) (x := (Int32.ofInt 1)) rfl rfl rfl ?_
        refine h_iadd (pc' := 44) rfl rfl hz13 ci_1 rfl (by omega) (by omega) (fun z14 hz14 => ?_)
        refine h_put (pc' := 47) rfl rfl rfl rfl rfl rfl hz14 rfl ?_
        have Is15 : h_I (h_up s12 98 11 ((s12 98 11) + 1)) := (if_98_11 Is12 (by omega))
        have Fs15 := (Fs12.up (q := 98) (a := 11) (v := ((s12 98 11) + 1)) rfl)
        have es15_0 : h_up s12 98 11 ((s12 98 11) + 1) 64 1 = s12 64 1 := rfl
        have es15_1 : h_up s12 98 11 ((s12 98 11) + 1) 98 11 = ((s12 98 11) + 1) := rfl
        generalize h_up s12 98 11 ((s12 98 11) + 1) = s15 at Is15 Fs15 es15_0 es15_1 ⊢
        refine h_aload_n (pc' := 48) rfl rfl rfl ?_
        refine h_getI (pc' := 51) (v := s15 98 11) rfl rfl rfl rfl rfl rfl (fun z16 hz16 => ?_)
        have tz16 := tf_98_11 Is15
        exact h_iret rfl rfl (kk _ _ hz16 _ Is15 Fs15 (by omega) (by omega) (by omega))
      · refine h_bipush (pc' := 26) (x := (Int32.ofInt (-3))) rfl rfl cb_m3 ?_
        exact h_iret rfl rfl (kk _ _ ci_m3 _ hI F00 (by omega) (by omega) (by omega))
theorem v_endM {ns : Nat} (σ : h_S) (hI : h_I σ) (x0 : Int32) (a0 : Int) (hx0 : x0.toInt = a0) {Q : Option Value → h_S → Prop} (kk : ∀ (r : Int32) (b : Int) (hb : r.toInt = b) (τ : h_S), h_I τ → h_F k_tp τ σ → ((-1) ≤ b ∧ b ≤ 160) → ((0 ≤ a0 ∧ a0 ≤ σ 98 11 ∧ b = σ 98 11 ∧ τ 98 11 = a0) ∨ ((a0 < 0 ∨ σ 98 11 < a0) ∧ b = -1 ∧ τ 98 11 = σ 98 11)) → (τ 64 1 = σ 64 1) → Q (some (.int r)) τ) : h_T g_P (g_Y ns) 144 0 [(0, .ref 98), (1, .int x0)] [] σ Q := by
  have F00 : h_F k_tp σ σ := h_F.rf
  refine h_iload_n (pc' := 1) rfl rfl rfl ?_
  refine h_i2l (pc' := 2) rfl rfl hx0 (fun z1 hz1 => ?_)
  refine h_lconst (pc' := 3) (x := (Int64.ofInt 0)) rfl rfl rfl ?_
  refine h_aload_n (pc' := 4) rfl rfl rfl ?_
  refine h_getI (pc' := 7) (v := σ 98 11) rfl rfl rfl rfl rfl rfl (fun z2 hz2 => ?_)
  have tz2 := tf_98_11 hI
  refine h_i2l (pc' := 8) rfl rfl hz2 (fun z3 hz3 => ?_)
  refine h_calls (pc' := 11) (M := [(0, .long z1), (2, .long (Int64.ofInt 0)), (4, .long z3)]) rfl rfl rfl rfl rfl rfl ?_
  refine h_lload_n (pc' := 1) rfl rfl rfl ?_
  refine h_lload_n (pc' := 2) rfl rfl rfl ?_
  refine h_lcmp (pc' := 3) rfl rfl hz1 cl_0 (fun z4 hz4 => ?_)
  refine h_zlt (tg := 17) (pc' := 6) rfl rfl rfl rfl (fun c5 => ?_) (fun c5 => ?_)
  · refine h_iconst (pc' := 18) (x := (Int32.ofInt 0)) rfl rfl rfl ?_
    refine h_zret rfl rfl ci_0 (by omega) (h_Kv ?_)
    refine h_zne (tg := 16) (pc' := 14) rfl rfl rfl ci_0 (fun c6 => absurd c6 (by omega)) (fun c6 => ?_)
    refine h_iconst (pc' := 15) (x := (Int32.ofInt (-1))) rfl rfl rfl ?_
    exact h_iret rfl rfl (kk _ _ ci_m1 _ hI F00 (by omega) (by omega) (by omega))
  · refine h_lload_n (pc' := 7) rfl rfl rfl ?_
    refine h_lload (pc' := 9) rfl rfl rfl ?_
    refine h_lcmp (pc' := 10) rfl rfl hz1 hz3 (fun z7 hz7 => ?_)
    refine h_zgt (tg := 17) (pc' := 13) rfl rfl rfl rfl (fun c8 => ?_) (fun c8 => ?_)
    · refine h_iconst (pc' := 18) (x := (Int32.ofInt 0)) rfl rfl rfl ?_
      refine h_zret rfl rfl ci_0 (by omega) (h_Kv ?_)
      refine h_zne (tg := 16) (pc' := 14) rfl rfl rfl ci_0 (fun c9 => absurd c9 (by omega)) (fun c9 => ?_)
      refine h_iconst (pc' := 15) (x := (Int32.ofInt (-1))) rfl rfl rfl ?_
      exact h_iret rfl rfl (kk _ _ ci_m1 _ hI F00 (by omega) (by omega) (by omega))
    · refine h_iconst (pc' := 14) (x := (Int32.ofInt 1)) rfl rfl rfl ?_
      refine h_goto (pc' := 18) rfl rfl ?_
      refine h_zret rfl rfl ci_1 (by omega) (h_Kv ?_)
      refine h_zne (tg := 16) (pc' := 14) rfl rfl rfl ci_1 (fun c10 => ?_) (fun c10 => absurd c10 (by omega))
      refine h_aload_n (pc' := 17) rfl rfl rfl ?_
      refine h_getI (pc' := 20) (v := σ 98 11) rfl rfl rfl rfl rfl rfl (fun z11 hz11 => ?_)
      have tz11 := tf_98_11 hI
      refine h_istore_n (pc' := 21) (M := [(2, .int z11), (0, .ref 98), (1, .int x0)]) rfl rfl rfl rfl ?_
      refine h_aload_n (pc' := 22) rfl rfl rfl ?_
      refine h_iload_n (pc' := 23) rfl rfl rfl ?_
      refine h_put (pc' := 26) rfl rfl rfl rfl rfl rfl hx0 rfl ?_
      have Is12 : h_I (h_up σ 98 11 a0) := (if_98_11 hI (by omega))
      have Fs12 := (F00.up (q := 98) (a := 11) (v := a0) rfl)
      have es12_0 : h_up σ 98 11 a0 64 1 = σ 64 1 := rfl
      have es12_1 : h_up σ 98 11 a0 98 11 = a0 := rfl
      generalize h_up σ 98 11 a0 = s12 at Is12 Fs12 es12_0 es12_1 ⊢
      refine h_iload_n (pc' := 27) rfl rfl rfl ?_
      exact h_iret rfl rfl (kk _ _ hz11 _ Is12 Fs12 (by omega) (by omega) (by omega))
