theorem v_nameHere_l (ns : Nat) (σ : h_S) (hI : h_I σ) {Q : Option Value → h_S → Prop} (kk : ∀ (r : Int32) (b : Int) (hb : r.toInt = b), ((-4) ≤ b ∧ b ≤ 7) → (b = -4 ∨ 0 ≤ b) → Q (some (.int r)) σ) : ∀ n : Nat, (∀ (y1 : Int32) (b1 : Int), y1.toInt = b1 → (0 ≤ b1 ∧ b1 ≤ 8) → (8 + 1 - b1) * 1000000 + 1000000000 ≤ (n : Int) → h_T g_P (g_Y ns) 147 2 [(0, .ref 98), (1, .int y1)] [] σ Q) ∧ (∀ (y1 : Int32) (b1 : Int), y1.toInt = b1 → (0 ≤ b1 ∧ b1 ≤ 7) → ∀ (y2 : Int32) (b2 : Int), y2.toInt = b2 → (0 ≤ b2 ∧ b2 ≤ 1) → ∀ (y3 : Int32) (b3 : Int), y3.toInt = b3 → (0 ≤ b3 ∧ b3 ≤ 160) → (b2 = 0 ∨ σ 98 15 - σ 98 16 = σ 103 (b1 + 1) - σ 103 b1) → (σ 103 (b1 + 1) ≤ 44) → ((8 + 1 - b1) - 1) * 1000000 + 1000000000 + (160 + 1 - b3) * 1000 + 100000 ≤ (n : Int) → h_T g_P (g_Y ns) 147 51 [(0, .ref 98), (1, .int y1), (2, .int y2), (3, .int y3)] [] σ Q) := by
  intro n
  induction n with
  | zero => exact ⟨by intro  y1 b1 hy1 ry1 hm; exfalso; omega, by intro  y1 b1 hy1 ry1 y2 b2 hy2 ry2 y3 b3 hy3 ry3 ex0 ex1 hm; exfalso; omega⟩
  | succ n ih =>
    refine ⟨?_, ?_⟩
    · intro  y1 b1 hy1 ry1 hm
      refine h_iload_n (pc' := 3) rfl rfl rfl ?_
      refine h_bipush (pc' := 5) (x := (Int32.ofInt 8)) rfl rfl cb_8 ?_
      refine h_cge (tg := 118) (pc' := 8) rfl rfl rfl hy1 ci_8 (fun c1 => ?_) (fun c1 => ?_)
      · refine h_bipush (pc' := 120) (x := (Int32.ofInt (-4))) rfl rfl cb_m4 ?_
        exact h_iret rfl rfl (kk _ _ ci_m4 (by omega) (by omega))
      · refine h_aload_n (pc' := 9) rfl rfl rfl ?_
        refine h_getI (pc' := 12) (v := σ 98 17) rfl rfl rfl rfl rfl rfl (fun z2 hz2 => ?_)
        have tz2 := tf_98_17 hI
        refine h_iconst (pc' := 13) (x := (Int32.ofInt 1)) rfl rfl rfl ?_
        refine h_cne (tg := 118) (pc' := 16) rfl rfl rfl hz2 ci_1 (fun c3 => ?_) (fun c3 => ?_)
        · refine h_bipush (pc' := 120) (x := (Int32.ofInt (-4))) rfl rfl cb_m4 ?_
          exact h_iret rfl rfl (kk _ _ ci_m4 (by omega) (by omega))
        · refine h_aload_n (pc' := 17) rfl rfl rfl ?_
          refine h_getI (pc' := 20) (v := σ 98 15) rfl rfl rfl rfl rfl rfl (fun z4 hz4 => ?_)
          have tz4 := tf_98_15 hI
          refine h_aload_n (pc' := 21) rfl rfl rfl ?_
          refine h_getI (pc' := 24) (v := σ 98 16) rfl rfl rfl rfl rfl rfl (fun z5 hz5 => ?_)
          have tz5 := tf_98_16 hI
          refine h_isub (pc' := 25) rfl rfl hz4 hz5 rfl (by omega) (by omega) (fun z6 hz6 => ?_)
          refine h_aload_n (pc' := 26) rfl rfl rfl ?_
          refine h_getR (pc' := 29) rfl rfl rfl rfl rfl ?_
          refine h_iload_n (pc' := 30) rfl rfl rfl ?_
          refine h_iconst (pc' := 31) (x := (Int32.ofInt 1)) rfl rfl rfl ?_
          refine h_iadd (pc' := 32) rfl rfl hy1 ci_1 rfl (by omega) (by omega) (fun z7 hz7 => ?_)
          refine h_iald (pc' := 33) (v := σ 103 (b1 + 1)) rfl rfl rfl hz7 (by omega) (by omega) rfl (fun z8 hz8 => ?_)
          have tz8 := ty_103 hI (b1 + 1)
          refine h_aload_n (pc' := 34) rfl rfl rfl ?_
          refine h_getR (pc' := 37) rfl rfl rfl rfl rfl ?_
          refine h_iload_n (pc' := 38) rfl rfl rfl ?_
          refine h_iald (pc' := 39) (v := σ 103 b1) rfl rfl rfl hy1 (by omega) (by omega) rfl (fun z9 hz9 => ?_)
          have tz9 := ty_103 hI b1
          refine h_isub (pc' := 40) rfl rfl hz8 hz9 rfl (by omega) (by omega) (fun z10 hz10 => ?_)
          refine h_cne (tg := 47) (pc' := 43) rfl rfl rfl hz6 hz10 (fun c11 => ?_) (fun c11 => ?_)
          · refine h_iconst (pc' := 48) (x := (Int32.ofInt 0)) rfl rfl rfl ?_
            refine h_istore_n (pc' := 49) (M := [(2, .int (Int32.ofInt 0)), (0, .ref 98), (1, .int y1)]) rfl rfl rfl rfl ?_
            refine h_iconst (pc' := 50) (x := (Int32.ofInt 0)) rfl rfl rfl ?_
            refine h_istore_n (pc' := 51) (M := [(3, .int (Int32.ofInt 0)), (2, .int (Int32.ofInt 0)), (0, .ref 98), (1, .int y1)]) rfl rfl rfl rfl ?_
            exact h_wk [(0, .ref 98), (1, .int y1), (2, .int (Int32.ofInt 0)), (3, .int (Int32.ofInt 0))] ⟨rfl, rfl, rfl, rfl, trivial⟩ (ih.2 y1 _ hy1 (by omega) (Int32.ofInt 0) _ ci_0 (by omega) (Int32.ofInt 0) _ ci_0 (by omega) (by omega) (by omega) (by omega))
          · refine h_iconst (pc' := 44) (x := (Int32.ofInt 1)) rfl rfl rfl ?_
            refine h_goto (pc' := 48) rfl rfl ?_
            refine h_istore_n (pc' := 49) (M := [(2, .int (Int32.ofInt 1)), (0, .ref 98), (1, .int y1)]) rfl rfl rfl rfl ?_
            refine h_iconst (pc' := 50) (x := (Int32.ofInt 0)) rfl rfl rfl ?_
            refine h_istore_n (pc' := 51) (M := [(3, .int (Int32.ofInt 0)), (2, .int (Int32.ofInt 1)), (0, .ref 98), (1, .int y1)]) rfl rfl rfl rfl ?_
            exact h_wk [(0, .ref 98), (1, .int y1), (2, .int (Int32.ofInt 1)), (3, .int (Int32.ofInt 0))] ⟨rfl, rfl, rfl, rfl, trivial⟩ (ih.2 y1 _ hy1 (by omega) (Int32.ofInt 1) _ ci_1 (by omega) (Int32.ofInt 0) _ ci_0 (by omega) (by omega) (by omega) (by omega))
    · intro  y1 b1 hy1 ry1 y2 b2 hy2 ry2 y3 b3 hy3 ry3 ex0 ex1 hm
      refine h_iload_n (pc' := 52) rfl rfl rfl ?_
      refine h_zeq (tg := 106) (pc' := 55) rfl rfl rfl hy2 (fun c1 => ?_) (fun c1 => ?_)
      · refine h_iload_n (pc' := 107) rfl rfl rfl ?_
        refine h_zeq (tg := 112) (pc' := 110) rfl rfl rfl hy2 (fun c2 => ?_) (fun c2 => absurd c2 (by omega))
        refine h_iinc (pc' := 115) (M := fun z3 => [(1, .int z3), (0, .ref 98), (2, .int y2), (3, .int y3)]) rfl rfl rfl rfl hy1 ci_1 rfl (by omega) (by omega) (fun _ => rfl) (fun z3 hz3 => ?_)
        refine h_goto (pc' := 2) rfl rfl ?_
        exact h_wk [(0, .ref 98), (1, .int z3)] ⟨rfl, rfl, trivial⟩ (ih.1 z3 _ hz3 (by omega) (by omega))
      · refine h_iload_n (pc' := 56) rfl rfl rfl ?_
        refine h_aload_n (pc' := 57) rfl rfl rfl ?_
        refine h_getI (pc' := 60) (v := σ 98 15) rfl rfl rfl rfl rfl rfl (fun z4 hz4 => ?_)
        have tz4 := tf_98_15 hI
        refine h_aload_n (pc' := 61) rfl rfl rfl ?_
        refine h_getI (pc' := 64) (v := σ 98 16) rfl rfl rfl rfl rfl rfl (fun z5 hz5 => ?_)
        have tz5 := tf_98_16 hI
        refine h_isub (pc' := 65) rfl rfl hz4 hz5 rfl (by omega) (by omega) (fun z6 hz6 => ?_)
        refine h_cge (tg := 106) (pc' := 68) rfl rfl rfl hy3 hz6 (fun c7 => ?_) (fun c7 => ?_)
        · refine h_iload_n (pc' := 107) rfl rfl rfl ?_
          refine h_zeq (tg := 112) (pc' := 110) rfl rfl rfl hy2 (fun c8 => absurd c8 (by omega)) (fun c8 => ?_)
          refine h_iload_n (pc' := 111) rfl rfl rfl ?_
          exact h_iret rfl rfl (kk _ _ hy1 (by omega) (by omega))
        · refine h_aload_n (pc' := 69) rfl rfl rfl ?_
          refine h_aload_n (pc' := 70) rfl rfl rfl ?_
          refine h_getI (pc' := 73) (v := σ 98 16) rfl rfl rfl rfl rfl rfl (fun z9 hz9 => ?_)
          have tz9 := tf_98_16 hI
          refine h_iload_n (pc' := 74) rfl rfl rfl ?_
          refine h_iadd (pc' := 75) rfl rfl hz9 hy3 rfl (by omega) (by omega) (fun z10 hz10 => ?_)
          refine h_call (sp := false) (pc' := 78) (M := [(0, .ref 98), (1, .int z10)]) rfl rfl rfl rfl rfl rfl rfl rfl ?_
          refine h_iload_n (pc' := 1) rfl rfl rfl ?_
          refine h_aload_n (pc' := 2) rfl rfl rfl ?_
          refine h_getI (pc' := 5) (v := σ 98 11) rfl rfl rfl rfl rfl rfl (fun z11 hz11 => ?_)
          have tz11 := tf_98_11 hI
          refine h_cge (tg := 17) (pc' := 8) rfl rfl rfl hz10 hz11 (fun c12 => ?_) (fun c12 => ?_)
          · refine h_bipush (pc' := 19) (x := (Int32.ofInt (-4))) rfl rfl cb_m4 ?_
            refine h_iret rfl rfl (h_Kv ?_)
            refine h_aload_n (pc' := 79) rfl rfl rfl ?_
            refine h_getR (pc' := 82) rfl rfl rfl rfl rfl ?_
            refine h_aload_n (pc' := 83) rfl rfl rfl ?_
            refine h_getR (pc' := 86) rfl rfl rfl rfl rfl ?_
            refine h_iload_n (pc' := 87) rfl rfl rfl ?_
            refine h_iald (pc' := 88) (v := σ 103 b1) rfl rfl rfl hy1 (by omega) (by omega) rfl (fun z13 hz13 => ?_)
            have tz13 := ty_103 hI b1
            refine h_iload_n (pc' := 89) rfl rfl rfl ?_
            refine h_iadd (pc' := 90) rfl rfl hz13 hy3 rfl (by omega) (by omega) (fun z14 hz14 => ?_)
            refine h_iald (pc' := 91) (v := σ 104 ((σ 103 b1) + b3)) rfl rfl rfl hz14 (by omega) (by omega) rfl (fun z15 hz15 => ?_)
            have tz15 := ty_104 hI ((σ 103 b1) + b3)
            refine h_cne (tg := 98) (pc' := 94) rfl rfl rfl ci_m4 hz15 (fun c16 => ?_) (fun c16 => ?_)
            · refine h_iconst (pc' := 99) (x := (Int32.ofInt 0)) rfl rfl rfl ?_
              refine h_istore_n (pc' := 100) (M := [(2, .int (Int32.ofInt 0)), (0, .ref 98), (1, .int y1), (3, .int y3)]) rfl rfl rfl rfl ?_
              refine h_iinc (pc' := 103) (M := fun z17 => [(3, .int z17), (2, .int (Int32.ofInt 0)), (0, .ref 98), (1, .int y1)]) rfl rfl rfl rfl hy3 ci_1 rfl (by omega) (by omega) (fun _ => rfl) (fun z17 hz17 => ?_)
              refine h_goto (pc' := 51) rfl rfl ?_
              exact h_wk [(0, .ref 98), (1, .int y1), (2, .int (Int32.ofInt 0)), (3, .int z17)] ⟨rfl, rfl, rfl, rfl, trivial⟩ (ih.2 y1 _ hy1 (by omega) (Int32.ofInt 0) _ ci_0 (by omega) z17 _ hz17 (by omega) (by omega) (by omega) (by omega))
            · refine h_iconst (pc' := 95) (x := (Int32.ofInt 1)) rfl rfl rfl ?_
              refine h_goto (pc' := 99) rfl rfl ?_
              refine h_istore_n (pc' := 100) (M := [(2, .int (Int32.ofInt 1)), (0, .ref 98), (1, .int y1), (3, .int y3)]) rfl rfl rfl rfl ?_
              refine h_iinc (pc' := 103) (M := fun z18 => [(3, .int z18), (2, .int (Int32.ofInt 1)), (0, .ref 98), (1, .int y1)]) rfl rfl rfl rfl hy3 ci_1 rfl (by omega) (by omega) (fun _ => rfl) (fun z18 hz18 => ?_)
              refine h_goto (pc' := 51) rfl rfl ?_
              exact h_wk [(0, .ref 98), (1, .int y1), (2, .int (Int32.ofInt 1)), (3, .int z18)] ⟨rfl, rfl, rfl, rfl, trivial⟩ (ih.2 y1 _ hy1 (by omega) (Int32.ofInt 1) _ ci_1 (by omega) z18 _ hz18 (by omega) (by omega) (by omega) (by omega))
          · refine h_aload_n (pc' := 9) rfl rfl rfl ?_
            refine h_getR (pc' := 12) rfl rfl rfl rfl rfl ?_
            refine h_iload_n (pc' := 13) rfl rfl rfl ?_
            refine h_iald (pc' := 14) (v := σ 102 ((σ 98 16) + b3)) rfl rfl rfl hz10 (by omega) (by omega) rfl (fun z19 hz19 => ?_)
            have tz19 := ty_102 hI ((σ 98 16) + b3)
            refine h_goto (pc' := 19) rfl rfl ?_
            refine h_iret rfl rfl (h_Kv ?_)
            refine h_aload_n (pc' := 79) rfl rfl rfl ?_
            refine h_getR (pc' := 82) rfl rfl rfl rfl rfl ?_
            refine h_aload_n (pc' := 83) rfl rfl rfl ?_
            refine h_getR (pc' := 86) rfl rfl rfl rfl rfl ?_
            refine h_iload_n (pc' := 87) rfl rfl rfl ?_
            refine h_iald (pc' := 88) (v := σ 103 b1) rfl rfl rfl hy1 (by omega) (by omega) rfl (fun z20 hz20 => ?_)
            have tz20 := ty_103 hI b1
            refine h_iload_n (pc' := 89) rfl rfl rfl ?_
            refine h_iadd (pc' := 90) rfl rfl hz20 hy3 rfl (by omega) (by omega) (fun z21 hz21 => ?_)
            refine h_iald (pc' := 91) (v := σ 104 ((σ 103 b1) + b3)) rfl rfl rfl hz21 (by omega) (by omega) rfl (fun z22 hz22 => ?_)
            have tz22 := ty_104 hI ((σ 103 b1) + b3)
            refine h_cne (tg := 98) (pc' := 94) rfl rfl rfl hz19 hz22 (fun c23 => ?_) (fun c23 => ?_)
            · refine h_iconst (pc' := 99) (x := (Int32.ofInt 0)) rfl rfl rfl ?_
              refine h_istore_n (pc' := 100) (M := [(2, .int (Int32.ofInt 0)), (0, .ref 98), (1, .int y1), (3, .int y3)]) rfl rfl rfl rfl ?_
              refine h_iinc (pc' := 103) (M := fun z24 => [(3, .int z24), (2, .int (Int32.ofInt 0)), (0, .ref 98), (1, .int y1)]) rfl rfl rfl rfl hy3 ci_1 rfl (by omega) (by omega) (fun _ => rfl) (fun z24 hz24 => ?_)
              refine h_goto (pc' := 51) rfl rfl ?_
              exact h_wk [(0, .ref 98), (1, .int y1), (2, .int (Int32.ofInt 0)), (3, .int z24)] ⟨rfl, rfl, rfl, rfl, trivial⟩ (ih.2 y1 _ hy1 (by omega) (Int32.ofInt 0) _ ci_0 (by omega) z24 _ hz24 (by omega) (by omega) (by omega) (by omega))
            · refine h_iconst (pc' := 95) (x := (Int32.ofInt 1)) rfl rfl rfl ?_
              refine h_goto (pc' := 99) rfl rfl ?_
              refine h_istore_n (pc' := 100) (M := [(2, .int (Int32.ofInt 1)), (0, .ref 98), (1, .int y1), (3, .int y3)]) rfl rfl rfl rfl ?_
              refine h_iinc (pc' := 103) (M := fun z25 => [(3, .int z25), (2, .int (Int32.ofInt 1)), (0, .ref 98), (1, .int y1)]) rfl rfl rfl rfl hy3 ci_1 rfl (by omega) (by omega) (fun _ => rfl) (fun z25 hz25 => ?_)
              refine h_goto (pc' := 51) rfl rfl ?_
              exact h_wk [(0, .ref 98), (1, .int y1), (2, .int (Int32.ofInt 1)), (3, .int z25)] ⟨rfl, rfl, rfl, rfl, trivial⟩ (ih.2 y1 _ hy1 (by omega) (Int32.ofInt 1) _ ci_1 (by omega) z25 _ hz25 (by omega) (by omega) (by omega) (by omega))
theorem v_nameHere {ns : Nat} (σ : h_S) (hI : h_I σ) {Q : Option Value → h_S → Prop} (kk : ∀ (r : Int32) (b : Int) (hb : r.toInt = b), ((-4) ≤ b ∧ b ≤ 7) → (b = -4 ∨ 0 ≤ b) → Q (some (.int r)) σ) : h_T g_P (g_Y ns) 147 0 [(0, .ref 98)] [] σ Q := by
  refine h_iconst (pc' := 1) (x := (Int32.ofInt 0)) rfl rfl rfl ?_
  refine h_istore_n (pc' := 2) (M := [(1, .int (Int32.ofInt 0)), (0, .ref 98)]) rfl rfl rfl rfl ?_
  exact h_wk [(0, .ref 98), (1, .int (Int32.ofInt 0))] ⟨rfl, rfl, trivial⟩ ((v_nameHere_l ns σ hI  kk 1000000000000).1 (Int32.ofInt 0) _ ci_0 (by omega) (by omega))
def kf_v_step : List Nat := [100365, 100366, 100367, 100368, 100369, 100370]
set_option maxHeartbeats 100000000 in
theorem v_step_l (ns : Nat) (σ : h_S) (hI : h_I σ) {Q : Option Value → h_S → Prop} (kk : ∀ (τ : h_S), h_I τ → h_F (k_in kf_v_step) τ σ → (((1 ≤ σ 98 13 ∧ σ 98 13 ≤ 6) ∧ (1 ≤ τ 98 13 ∧ τ 98 13 ≤ 6) ∧ (τ 98 15 = σ 98 15) ∧ (τ 98 17 = σ 98 17)) ∨ ((σ 98 13 = 0) ∧ (τ 98 13 = 1) ∧ (0 ≤ τ 98 17 ∧ τ 98 17 ≤ 3) ∧ (σ 98 15 < τ 98 15)) ∨ ((σ 98 13 = 0) ∧ (τ 98 13 = 0) ∧ (τ 98 17 = 0) ∧ (σ 98 15 ≤ τ 98 15)) ∨ ((σ 98 13 = 0) ∧ (τ 98 13 = 0) ∧ (1 ≤ τ 98 17 ∧ τ 98 17 ≤ 3) ∧ (σ 98 15 < τ 98 15))) → Q none τ) : ∀ n : Nat, (∀ (s0 : h_S), h_I s0 → h_F (k_in kf_v_step) s0 σ → (σ 98 15 ≤ s0 98 15) → (s0 98 13 = 0) → (σ 98 13 = 0) → (161 - s0 98 15) + 1000 ≤ (n : Int) → h_T g_P (g_Y ns) 148 8 [(0, .ref 98)] [] s0 Q) ∧ (∀ (s0 : h_S), h_I s0 → h_F (k_in kf_v_step) s0 σ → ∀ (y1 : Int32) (b1 : Int), y1.toInt = b1 → (97 ≤ b1 ∧ b1 ≤ 122) → (σ 98 15 ≤ s0 98 16) → (s0 98 16 < s0 98 15) → (s0 98 13 = 0) → (σ 98 13 = 0) → (161 - s0 98 15) ≤ (n : Int) → h_T g_P (g_Y ns) 148 84 [(0, .ref 98), (1, .int y1)] [] s0 Q) ∧ (∀ (s0 : h_S), h_I s0 → h_F (k_in kf_v_step) s0 σ → ∀ (y1 : Int32) (b1 : Int), y1.toInt = b1 → (48 ≤ b1 ∧ b1 ≤ 57) → (σ 98 15 ≤ s0 98 16) → (s0 98 16 < s0 98 15) → (s0 98 13 = 0) → (σ 98 13 = 0) → (s0 98 15 - s0 98 16 = 1 → s0 98 18 ≤ 9) → (161 - s0 98 15) ≤ (n : Int) → h_T g_P (g_Y ns) 148 140 [(0, .ref 98), (1, .int y1)] [] s0 Q) := by
  intro n
  induction n with
  | zero => exact ⟨by intro s0 I0 F0_ ex0 ex1 ex2 hm; have gh0 := tf_98_15 I0; exfalso; omega, by intro s0 I0 F0_ y1 b1 hy1 ry1 ex0 ex1 ex2 ex3 hm; have gh0 := tf_98_15 I0; exfalso; omega, by intro s0 I0 F0_ y1 b1 hy1 ry1 ex0 ex1 ex2 ex3 ex4 hm; have gh0 := tf_98_15 I0; exfalso; omega⟩
  | succ n ih =>
    refine ⟨?_, ?_, ?_⟩
    · intro s0 I0 F0_ ex0 ex1 ex2 hm; have gh0 := tf_98_15 I0
      refine h_aload_n (pc' := 9) rfl rfl rfl ?_
      refine h_aload_n (pc' := 10) rfl rfl rfl ?_
      refine h_getI (pc' := 13) (v := s0 98 15) rfl rfl rfl rfl rfl rfl (fun z1 hz1 => ?_)
      have tz1 := tf_98_15 I0
      refine h_call (sp := false) (pc' := 16) (M := [(0, .ref 98), (1, .int z1)]) rfl rfl rfl rfl rfl rfl rfl rfl ?_
      refine h_iload_n (pc' := 1) rfl rfl rfl ?_
      refine h_aload_n (pc' := 2) rfl rfl rfl ?_
      refine h_getI (pc' := 5) (v := σ 98 11) rfl rfl rfl rfl rfl (F0_ 98 11 rfl) (fun z2 hz2 => ?_)
      have tz2 := tf_98_11 hI
      refine h_cge (tg := 17) (pc' := 8) rfl rfl rfl hz1 hz2 (fun c3 => ?_) (fun c3 => ?_)
      · refine h_bipush (pc' := 19) (x := (Int32.ofInt (-4))) rfl rfl cb_m4 ?_
        refine h_iret rfl rfl (h_Kv ?_)
        refine h_bipush (pc' := 18) (x := (Int32.ofInt 32)) rfl rfl cb_32 ?_
        refine h_cne (tg := 34) (pc' := 21) rfl rfl rfl ci_m4 ci_32 (fun c4 => ?_) (fun c4 => absurd c4 (by omega))
        refine h_aload_n (pc' := 35) rfl rfl rfl ?_
        refine h_aload_n (pc' := 36) rfl rfl rfl ?_
        refine h_getI (pc' := 39) (v := s0 98 15) rfl rfl rfl rfl rfl rfl (fun z5 hz5 => ?_)
        have tz5 := tf_98_15 I0
        refine h_put (pc' := 42) rfl rfl rfl rfl rfl rfl hz5 rfl (h_fgt (E := fun s => s 98 15 = s0 98 15 ∧ s 98 16 = (s0 98 15) ∧ s 98 17 = s0 98 17 ∧ s 98 18 = s0 98 18 ∧ s 98 13 = s0 98 13) _ (if_98_16 I0 (by omega)) (F0_.up rfl) ⟨rfl, rfl, rfl, rfl, rfl⟩ (fun s6 Is6 Fs6 (es6 : s6 98 15 = s0 98 15 ∧ s6 98 16 = (s0 98 15) ∧ s6 98 17 = s0 98 17 ∧ s6 98 18 = s0 98 18 ∧ s6 98 13 = s0 98 13) => ?_))
        refine h_aload_n (pc' := 43) rfl rfl rfl ?_
        refine h_aload_n (pc' := 44) rfl rfl rfl ?_
        refine h_getI (pc' := 47) (v := s0 98 15) rfl rfl rfl rfl rfl es6.1 (fun z7 hz7 => ?_)
        have tz7 := tf_98_15 I0
        refine h_call (sp := false) (pc' := 50) (M := [(0, .ref 98), (1, .int z7)]) rfl rfl rfl rfl rfl rfl rfl rfl ?_
        refine h_iload_n (pc' := 1) rfl rfl rfl ?_
        refine h_aload_n (pc' := 2) rfl rfl rfl ?_
        refine h_getI (pc' := 5) (v := σ 98 11) rfl rfl rfl rfl rfl (Fs6 98 11 rfl) (fun z8 hz8 => ?_)
        have tz8 := tf_98_11 hI
        refine h_cge (tg := 17) (pc' := 8) rfl rfl rfl hz7 hz8 (fun c9 => ?_) (fun c9 => ?_)
        · refine h_bipush (pc' := 19) (x := (Int32.ofInt (-4))) rfl rfl cb_m4 ?_
          refine h_iret rfl rfl (h_Kv ?_)
          refine h_istore_n (pc' := 51) (M := [(1, .int (Int32.ofInt (-4))), (0, .ref 98)]) rfl rfl rfl rfl ?_
          refine h_aload_n (pc' := 52) rfl rfl rfl ?_
          refine h_iconst (pc' := 53) (x := (Int32.ofInt 0)) rfl rfl rfl ?_
          refine h_put (pc' := 56) rfl rfl rfl rfl rfl rfl ci_0 rfl (h_fgt (E := fun s => s 98 15 = s0 98 15 ∧ s 98 16 = (s0 98 15) ∧ s 98 17 = s0 98 17 ∧ s 98 18 = 0 ∧ s 98 13 = s0 98 13) _ (if_98_18 Is6 (by omega)) (Fs6.up rfl) ⟨es6.1, es6.2.1, es6.2.2.1, rfl, es6.2.2.2.2⟩ (fun s10 Is10 Fs10 (es10 : s10 98 15 = s0 98 15 ∧ s10 98 16 = (s0 98 15) ∧ s10 98 17 = s0 98 17 ∧ s10 98 18 = 0 ∧ s10 98 13 = s0 98 13) => ?_))
          clear es6
          refine h_iload_n (pc' := 57) rfl rfl rfl ?_
          refine h_bipush (pc' := 59) (x := (Int32.ofInt (-4))) rfl rfl cb_m4 ?_
          refine h_cne (tg := 70) (pc' := 62) rfl rfl rfl ci_m4 ci_m4 (fun c11 => absurd c11 (by omega)) (fun c11 => ?_)
          refine h_aload_n (pc' := 63) rfl rfl rfl ?_
          refine h_iconst (pc' := 64) (x := (Int32.ofInt 0)) rfl rfl rfl ?_
          refine h_put (pc' := 67) rfl rfl rfl rfl rfl rfl ci_0 rfl (h_fgt (E := fun s => s 98 15 = s0 98 15 ∧ s 98 16 = (s0 98 15) ∧ s 98 17 = 0 ∧ s 98 18 = 0 ∧ s 98 13 = s0 98 13) _ (if_98_17 Is10 (by omega)) (Fs10.up rfl) ⟨es10.1, es10.2.1, rfl, es10.2.2.2.1, es10.2.2.2.2⟩ (fun s12 Is12 Fs12 (es12 : s12 98 15 = s0 98 15 ∧ s12 98 16 = (s0 98 15) ∧ s12 98 17 = 0 ∧ s12 98 18 = 0 ∧ s12 98 13 = s0 98 13) => ?_))
          clear es10
          refine h_goto (pc' := 269) rfl rfl ?_
          exact h_vret rfl rfl (kk _ Is12 Fs12 (Or.inr (Or.inr (Or.inl ⟨by omega, by omega, by omega, by omega⟩))))
        · refine h_aload_n (pc' := 9) rfl rfl rfl ?_
          refine h_getR (pc' := 12) rfl rfl rfl rfl rfl ?_
          refine h_iload_n (pc' := 13) rfl rfl rfl ?_
          refine h_iald (pc' := 14) (v := σ 102 (s0 98 15)) rfl rfl rfl hz7 (by omega) (by omega) (Fs6 102 _ rfl) (fun z13 hz13 => ?_)
          have tz13 := ty_102 hI (s0 98 15)
          refine h_goto (pc' := 19) rfl rfl ?_
          refine h_iret rfl rfl (h_Kv ?_)
          refine h_istore_n (pc' := 51) (M := [(1, .int z13), (0, .ref 98)]) rfl rfl rfl rfl ?_
          refine h_aload_n (pc' := 52) rfl rfl rfl ?_
          refine h_iconst (pc' := 53) (x := (Int32.ofInt 0)) rfl rfl rfl ?_
          refine h_put (pc' := 56) rfl rfl rfl rfl rfl rfl ci_0 rfl (h_fgt (E := fun s => s 98 15 = s0 98 15 ∧ s 98 16 = (s0 98 15) ∧ s 98 17 = s0 98 17 ∧ s 98 18 = 0 ∧ s 98 13 = s0 98 13) _ (if_98_18 Is6 (by omega)) (Fs6.up rfl) ⟨es6.1, es6.2.1, es6.2.2.1, rfl, es6.2.2.2.2⟩ (fun s14 Is14 Fs14 (es14 : s14 98 15 = s0 98 15 ∧ s14 98 16 = (s0 98 15) ∧ s14 98 17 = s0 98 17 ∧ s14 98 18 = 0 ∧ s14 98 13 = s0 98 13) => ?_))
          clear es6
          refine h_iload_n (pc' := 57) rfl rfl rfl ?_
          refine h_bipush (pc' := 59) (x := (Int32.ofInt (-4))) rfl rfl cb_m4 ?_
          refine h_cne (tg := 70) (pc' := 62) rfl rfl rfl hz13 ci_m4 (fun c15 => ?_) (fun c15 => absurd c15 (by omega))
          refine h_iload_n (pc' := 71) rfl rfl rfl ?_
          refine h_i2l (pc' := 72) rfl rfl hz13 (fun z16 hz16 => ?_)
          refine h_ldc2 (pc' := 75) (x := (Int64.ofInt 97)) rfl rfl rfl ?_
          refine h_ldc2 (pc' := 78) (x := (Int64.ofInt 122)) rfl rfl rfl ?_
          refine h_calls (pc' := 81) (M := [(0, .long z16), (2, .long (Int64.ofInt 97)), (4, .long (Int64.ofInt 122))]) rfl rfl rfl rfl rfl rfl ?_
          refine h_lload_n (pc' := 1) rfl rfl rfl ?_
          refine h_lload_n (pc' := 2) rfl rfl rfl ?_
          refine h_lcmp (pc' := 3) rfl rfl hz16 cl_97 (fun z17 hz17 => ?_)
          refine h_zlt (tg := 17) (pc' := 6) rfl rfl rfl rfl (fun c18 => ?_) (fun c18 => ?_)
          · replace c18 := (h_lcr hz17).1 c18
            clear hz17
            refine h_iconst (pc' := 18) (x := (Int32.ofInt 0)) rfl rfl rfl ?_
            refine h_zret rfl rfl ci_0 (by omega) (h_Kv ?_)
            refine h_zeq (tg := 126) (pc' := 84) rfl rfl rfl ci_0 (fun c19 => ?_) (fun c19 => absurd c19 (by omega))
            refine h_iload_n (pc' := 127) rfl rfl rfl ?_
            refine h_i2l (pc' := 128) rfl rfl hz13 (fun z20 hz20 => ?_)
            refine h_ldc2 (pc' := 131) (x := (Int64.ofInt 48)) rfl rfl rfl ?_
            refine h_ldc2 (pc' := 134) (x := (Int64.ofInt 57)) rfl rfl rfl ?_
            refine h_calls (pc' := 137) (M := [(0, .long z20), (2, .long (Int64.ofInt 48)), (4, .long (Int64.ofInt 57))]) rfl rfl rfl rfl rfl rfl ?_
            refine h_lload_n (pc' := 1) rfl rfl rfl ?_
            refine h_lload_n (pc' := 2) rfl rfl rfl ?_
            refine h_lcmp (pc' := 3) rfl rfl hz20 cl_48 (fun z21 hz21 => ?_)
            refine h_zlt (tg := 17) (pc' := 6) rfl rfl rfl rfl (fun c22 => ?_) (fun c22 => ?_)
            · replace c22 := (h_lcr hz21).1 c22
              clear hz21
              refine h_iconst (pc' := 18) (x := (Int32.ofInt 0)) rfl rfl rfl ?_
              refine h_zret rfl rfl ci_0 (by omega) (h_Kv ?_)
              refine h_zeq (tg := 243) (pc' := 140) rfl rfl rfl ci_0 (fun c23 => ?_) (fun c23 => absurd c23 (by omega))
              refine h_aload_n (pc' := 244) rfl rfl rfl ?_
              refine h_iconst (pc' := 245) (x := (Int32.ofInt 3)) rfl rfl rfl ?_
              refine h_put (pc' := 248) rfl rfl rfl rfl rfl rfl ci_3 rfl (h_fgt (E := fun s => s 98 15 = s0 98 15 ∧ s 98 16 = (s0 98 15) ∧ s 98 17 = 3 ∧ s 98 18 = 0 ∧ s 98 13 = s0 98 13) _ (if_98_17 Is14 (by omega)) (Fs14.up rfl) ⟨es14.1, es14.2.1, rfl, es14.2.2.2.1, es14.2.2.2.2⟩ (fun s24 Is24 Fs24 (es24 : s24 98 15 = s0 98 15 ∧ s24 98 16 = (s0 98 15) ∧ s24 98 17 = 3 ∧ s24 98 18 = 0 ∧ s24 98 13 = s0 98 13) => ?_))
              clear es14
              refine h_aload_n (pc' := 249) rfl rfl rfl ?_
              refine h_dup (pc' := 250) rfl rfl rfl ?_
              refine h_getI (pc' := 253) (v := s0 98 15) rfl rfl rfl rfl rfl es24.1 (fun z25 hz25 => ?_)
              have tz25 := tf_98_15 I0
              refine h_iconst (pc' := 254) (x := (Int32.ofInt 1)) rfl rfl rfl ?_
              refine h_iadd (pc' := 255) rfl rfl hz25 ci_1 rfl (by omega) (by omega) (fun z26 hz26 => ?_)
              refine h_put (pc' := 258) rfl rfl rfl rfl rfl rfl hz26 rfl (h_fgt (E := fun s => s 98 15 = ((s0 98 15) + 1) ∧ s 98 16 = (s0 98 15) ∧ s 98 17 = 3 ∧ s 98 18 = 0 ∧ s 98 13 = s0 98 13) _ (if_98_15 Is24 (by omega)) (Fs24.up rfl) ⟨rfl, es24.2.1, es24.2.2.1, es24.2.2.2.1, es24.2.2.2.2⟩ (fun s27 Is27 Fs27 (es27 : s27 98 15 = ((s0 98 15) + 1) ∧ s27 98 16 = (s0 98 15) ∧ s27 98 17 = 3 ∧ s27 98 18 = 0 ∧ s27 98 13 = s0 98 13) => ?_))
              clear es24
              refine h_iload_n (pc' := 259) rfl rfl rfl ?_
              refine h_bipush (pc' := 261) (x := (Int32.ofInt 59)) rfl rfl cb_59 ?_
              refine h_ceq (tg := 269) (pc' := 264) rfl rfl rfl hz13 ci_59 (fun c28 => absurd c28 (by omega)) (fun c28 => ?_)
              refine h_aload_n (pc' := 265) rfl rfl rfl ?_
              refine h_iconst (pc' := 266) (x := (Int32.ofInt 1)) rfl rfl rfl ?_
              refine h_call (sp := false) (pc' := 269) (M := [(0, .ref 98), (1, .int (Int32.ofInt 1))]) rfl rfl rfl rfl rfl rfl rfl rfl ?_
              refine h_aload_n (pc' := 1) rfl rfl rfl ?_
              refine h_getI (pc' := 4) (v := s0 98 13) rfl rfl rfl rfl rfl es27.2.2.2.2 (fun z29 hz29 => ?_)
              have tz29 := tf_98_13 I0
              refine h_zne (tg := 20) (pc' := 7) rfl rfl rfl hz29 (fun c30 => absurd c30 (by omega)) (fun c30 => ?_)
              refine h_aload_n (pc' := 8) rfl rfl rfl ?_
              refine h_iload_n (pc' := 9) rfl rfl rfl ?_
              refine h_put (pc' := 12) rfl rfl rfl rfl rfl rfl ci_1 rfl (h_fgt (E := fun s => s 98 15 = ((s0 98 15) + 1) ∧ s 98 16 = (s0 98 15) ∧ s 98 17 = 3 ∧ s 98 18 = 0 ∧ s 98 13 = 1) _ (if_98_13 Is27 (by omega)) (Fs27.up rfl) ⟨es27.1, es27.2.1, es27.2.2.1, es27.2.2.2.1, rfl⟩ (fun s31 Is31 Fs31 (es31 : s31 98 15 = ((s0 98 15) + 1) ∧ s31 98 16 = (s0 98 15) ∧ s31 98 17 = 3 ∧ s31 98 18 = 0 ∧ s31 98 13 = 1) => ?_))
              clear es27
              refine h_aload_n (pc' := 13) rfl rfl rfl ?_
              refine h_aload_n (pc' := 14) rfl rfl rfl ?_
              refine h_getI (pc' := 17) (v := (s0 98 15)) rfl rfl rfl rfl rfl es31.2.1 (fun z32 hz32 => ?_)
              refine h_put (pc' := 20) rfl rfl rfl rfl rfl rfl hz32 rfl (h_fgt (E := fun s => s 98 15 = ((s0 98 15) + 1) ∧ s 98 16 = (s0 98 15) ∧ s 98 17 = 3 ∧ s 98 18 = 0 ∧ s 98 13 = 1) _ (if_98_14 Is31 (h_rgv hz32)) (Fs31.up rfl) ⟨es31.1, es31.2.1, es31.2.2.1, es31.2.2.2.1, es31.2.2.2.2⟩ (fun s33 Is33 Fs33 (es33 : s33 98 15 = ((s0 98 15) + 1) ∧ s33 98 16 = (s0 98 15) ∧ s33 98 17 = 3 ∧ s33 98 18 = 0 ∧ s33 98 13 = 1) => ?_))
              clear es31
              refine h_vret rfl rfl (h_Kn ?_)
              exact h_vret rfl rfl (kk _ Is33 Fs33 (Or.inr (Or.inl ⟨by omega, by omega, by omega, by omega⟩)))
            · replace c22 := (h_lcr hz21).2.1 c22
              clear hz21
              refine h_lload_n (pc' := 7) rfl rfl rfl ?_
              refine h_lload (pc' := 9) rfl rfl rfl ?_
              refine h_lcmp (pc' := 10) rfl rfl hz20 cl_57 (fun z34 hz34 => ?_)
              refine h_zgt (tg := 17) (pc' := 13) rfl rfl rfl rfl (fun c35 => ?_) (fun c35 => ?_)
              · replace c35 := (h_lcr hz34).2.2.2.1 c35
                clear hz34
                refine h_iconst (pc' := 18) (x := (Int32.ofInt 0)) rfl rfl rfl ?_
                refine h_zret rfl rfl ci_0 (by omega) (h_Kv ?_)
                refine h_zeq (tg := 243) (pc' := 140) rfl rfl rfl ci_0 (fun c36 => ?_) (fun c36 => absurd c36 (by omega))
                refine h_aload_n (pc' := 244) rfl rfl rfl ?_
                refine h_iconst (pc' := 245) (x := (Int32.ofInt 3)) rfl rfl rfl ?_
                refine h_put (pc' := 248) rfl rfl rfl rfl rfl rfl ci_3 rfl (h_fgt (E := fun s => s 98 15 = s0 98 15 ∧ s 98 16 = (s0 98 15) ∧ s 98 17 = 3 ∧ s 98 18 = 0 ∧ s 98 13 = s0 98 13) _ (if_98_17 Is14 (by omega)) (Fs14.up rfl) ⟨es14.1, es14.2.1, rfl, es14.2.2.2.1, es14.2.2.2.2⟩ (fun s37 Is37 Fs37 (es37 : s37 98 15 = s0 98 15 ∧ s37 98 16 = (s0 98 15) ∧ s37 98 17 = 3 ∧ s37 98 18 = 0 ∧ s37 98 13 = s0 98 13) => ?_))
                clear es14
                refine h_aload_n (pc' := 249) rfl rfl rfl ?_
                refine h_dup (pc' := 250) rfl rfl rfl ?_
                refine h_getI (pc' := 253) (v := s0 98 15) rfl rfl rfl rfl rfl es37.1 (fun z38 hz38 => ?_)
                have tz38 := tf_98_15 I0
                refine h_iconst (pc' := 254) (x := (Int32.ofInt 1)) rfl rfl rfl ?_
                refine h_iadd (pc' := 255) rfl rfl hz38 ci_1 rfl (by omega) (by omega) (fun z39 hz39 => ?_)
                refine h_put (pc' := 258) rfl rfl rfl rfl rfl rfl hz39 rfl (h_fgt (E := fun s => s 98 15 = ((s0 98 15) + 1) ∧ s 98 16 = (s0 98 15) ∧ s 98 17 = 3 ∧ s 98 18 = 0 ∧ s 98 13 = s0 98 13) _ (if_98_15 Is37 (by omega)) (Fs37.up rfl) ⟨rfl, es37.2.1, es37.2.2.1, es37.2.2.2.1, es37.2.2.2.2⟩ (fun s40 Is40 Fs40 (es40 : s40 98 15 = ((s0 98 15) + 1) ∧ s40 98 16 = (s0 98 15) ∧ s40 98 17 = 3 ∧ s40 98 18 = 0 ∧ s40 98 13 = s0 98 13) => ?_))
                clear es37
                refine h_iload_n (pc' := 259) rfl rfl rfl ?_
                refine h_bipush (pc' := 261) (x := (Int32.ofInt 59)) rfl rfl cb_59 ?_
                refine h_ceq (tg := 269) (pc' := 264) rfl rfl rfl hz13 ci_59 (fun c41 => ?_) (fun c41 => ?_)
                · exact h_vret rfl rfl (kk _ Is40 Fs40 (Or.inr (Or.inr (Or.inr ⟨by omega, by omega, by omega, by omega⟩))))
                · refine h_aload_n (pc' := 265) rfl rfl rfl ?_
                  refine h_iconst (pc' := 266) (x := (Int32.ofInt 1)) rfl rfl rfl ?_
                  refine h_call (sp := false) (pc' := 269) (M := [(0, .ref 98), (1, .int (Int32.ofInt 1))]) rfl rfl rfl rfl rfl rfl rfl rfl ?_
                  refine h_aload_n (pc' := 1) rfl rfl rfl ?_
                  refine h_getI (pc' := 4) (v := s0 98 13) rfl rfl rfl rfl rfl es40.2.2.2.2 (fun z42 hz42 => ?_)
                  have tz42 := tf_98_13 I0
                  refine h_zne (tg := 20) (pc' := 7) rfl rfl rfl hz42 (fun c43 => absurd c43 (by omega)) (fun c43 => ?_)
                  refine h_aload_n (pc' := 8) rfl rfl rfl ?_
                  refine h_iload_n (pc' := 9) rfl rfl rfl ?_
                  refine h_put (pc' := 12) rfl rfl rfl rfl rfl rfl ci_1 rfl (h_fgt (E := fun s => s 98 15 = ((s0 98 15) + 1) ∧ s 98 16 = (s0 98 15) ∧ s 98 17 = 3 ∧ s 98 18 = 0 ∧ s 98 13 = 1) _ (if_98_13 Is40 (by omega)) (Fs40.up rfl) ⟨es40.1, es40.2.1, es40.2.2.1, es40.2.2.2.1, rfl⟩ (fun s44 Is44 Fs44 (es44 : s44 98 15 = ((s0 98 15) + 1) ∧ s44 98 16 = (s0 98 15) ∧ s44 98 17 = 3 ∧ s44 98 18 = 0 ∧ s44 98 13 = 1) => ?_))
                  clear es40
                  refine h_aload_n (pc' := 13) rfl rfl rfl ?_
                  refine h_aload_n (pc' := 14) rfl rfl rfl ?_
                  refine h_getI (pc' := 17) (v := (s0 98 15)) rfl rfl rfl rfl rfl es44.2.1 (fun z45 hz45 => ?_)
                  refine h_put (pc' := 20) rfl rfl rfl rfl rfl rfl hz45 rfl (h_fgt (E := fun s => s 98 15 = ((s0 98 15) + 1) ∧ s 98 16 = (s0 98 15) ∧ s 98 17 = 3 ∧ s 98 18 = 0 ∧ s 98 13 = 1) _ (if_98_14 Is44 (h_rgv hz45)) (Fs44.up rfl) ⟨es44.1, es44.2.1, es44.2.2.1, es44.2.2.2.1, es44.2.2.2.2⟩ (fun s46 Is46 Fs46 (es46 : s46 98 15 = ((s0 98 15) + 1) ∧ s46 98 16 = (s0 98 15) ∧ s46 98 17 = 3 ∧ s46 98 18 = 0 ∧ s46 98 13 = 1) => ?_))
                  clear es44
                  refine h_vret rfl rfl (h_Kn ?_)
                  exact h_vret rfl rfl (kk _ Is46 Fs46 (Or.inr (Or.inl ⟨by omega, by omega, by omega, by omega⟩)))
              · replace c35 := (h_lcr hz34).2.2.1 c35
                clear hz34
                refine h_iconst (pc' := 14) (x := (Int32.ofInt 1)) rfl rfl rfl ?_
                refine h_goto (pc' := 18) rfl rfl ?_
                refine h_zret rfl rfl ci_1 (by omega) (h_Kv ?_)
                refine h_zeq (tg := 243) (pc' := 140) rfl rfl rfl ci_1 (fun c47 => absurd c47 (by omega)) (fun c47 => ?_)
                refine h_aload_n (pc' := 141) rfl rfl rfl ?_
                refine h_aload_n (pc' := 142) rfl rfl rfl ?_
                refine h_getI (pc' := 145) (v := s0 98 15) rfl rfl rfl rfl rfl es14.1 (fun z48 hz48 => ?_)
                have tz48 := tf_98_15 I0
                refine h_call (sp := false) (pc' := 148) (M := [(0, .ref 98), (1, .int z48)]) rfl rfl rfl rfl rfl rfl rfl rfl ?_
                refine h_iload_n (pc' := 1) rfl rfl rfl ?_
                refine h_aload_n (pc' := 2) rfl rfl rfl ?_
                refine h_getI (pc' := 5) (v := σ 98 11) rfl rfl rfl rfl rfl (Fs14 98 11 rfl) (fun z49 hz49 => ?_)
                have tz49 := tf_98_11 hI
                refine h_cge (tg := 17) (pc' := 8) rfl rfl rfl hz48 hz49 (fun c50 => ?_) (fun c50 => ?_)
                · refine h_bipush (pc' := 19) (x := (Int32.ofInt (-4))) rfl rfl cb_m4 ?_
                  refine h_iret rfl rfl (h_Kv ?_)
                  refine h_i2l (pc' := 149) rfl rfl ci_m4 (fun z51 hz51 => ?_)
                  refine h_ldc2 (pc' := 152) (x := (Int64.ofInt 48)) rfl rfl rfl ?_
                  refine h_ldc2 (pc' := 155) (x := (Int64.ofInt 57)) rfl rfl rfl ?_
                  refine h_calls (pc' := 158) (M := [(0, .long z51), (2, .long (Int64.ofInt 48)), (4, .long (Int64.ofInt 57))]) rfl rfl rfl rfl rfl rfl ?_
                  refine h_lload_n (pc' := 1) rfl rfl rfl ?_
                  refine h_lload_n (pc' := 2) rfl rfl rfl ?_
                  refine h_lcmp (pc' := 3) rfl rfl hz51 cl_48 (fun z52 hz52 => ?_)
                  refine h_zlt (tg := 17) (pc' := 6) rfl rfl rfl rfl (fun c53 => ?_) (fun c53 => absurd c53 (by omega))
                  replace c53 := (h_lcr hz52).1 c53
                  clear hz52
                  refine h_iconst (pc' := 18) (x := (Int32.ofInt 0)) rfl rfl rfl ?_
                  refine h_zret rfl rfl ci_0 (by omega) (h_Kv ?_)
                  refine h_zeq (tg := 217) (pc' := 161) rfl rfl rfl ci_0 (fun c54 => ?_) (fun c54 => absurd c54 (by omega))
                  refine h_aload_n (pc' := 218) rfl rfl rfl ?_
                  refine h_iconst (pc' := 219) (x := (Int32.ofInt 2)) rfl rfl rfl ?_
                  refine h_put (pc' := 222) rfl rfl rfl rfl rfl rfl ci_2 rfl (h_fgt (E := fun s => s 98 15 = s0 98 15 ∧ s 98 16 = (s0 98 15) ∧ s 98 17 = 2 ∧ s 98 18 = 0 ∧ s 98 13 = s0 98 13) _ (if_98_17 Is14 (by omega)) (Fs14.up rfl) ⟨es14.1, es14.2.1, rfl, es14.2.2.2.1, es14.2.2.2.2⟩ (fun s55 Is55 Fs55 (es55 : s55 98 15 = s0 98 15 ∧ s55 98 16 = (s0 98 15) ∧ s55 98 17 = 2 ∧ s55 98 18 = 0 ∧ s55 98 13 = s0 98 13) => ?_))
                  clear es14
                  refine h_aload_n (pc' := 223) rfl rfl rfl ?_
                  refine h_getI (pc' := 226) (v := s0 98 15) rfl rfl rfl rfl rfl es55.1 (fun z56 hz56 => ?_)
                  have tz56 := tf_98_15 I0
                  refine h_aload_n (pc' := 227) rfl rfl rfl ?_
                  refine h_getI (pc' := 230) (v := (s0 98 15)) rfl rfl rfl rfl rfl es55.2.1 (fun z57 hz57 => ?_)
                  refine h_isub (pc' := 231) rfl rfl hz56 hz57 rfl (by omega) (by omega) (fun z58 hz58 => ?_)
                  refine h_iconst (pc' := 232) (x := (Int32.ofInt 2)) rfl rfl rfl ?_
                  refine h_cle (tg := 269) (pc' := 235) rfl rfl rfl hz58 ci_2 (fun c59 => ?_) (fun c59 => ?_)
                  · exact h_vret rfl rfl (kk _ Is55 Fs55 (Or.inr (Or.inr (Or.inr ⟨by omega, by omega, by omega, by omega⟩))))
                  · refine h_aload_n (pc' := 236) rfl rfl rfl ?_
                    refine h_iconst (pc' := 237) (x := (Int32.ofInt 1)) rfl rfl rfl ?_
                    refine h_call (sp := false) (pc' := 240) (M := [(0, .ref 98), (1, .int (Int32.ofInt 1))]) rfl rfl rfl rfl rfl rfl rfl rfl ?_
                    refine h_aload_n (pc' := 1) rfl rfl rfl ?_
                    refine h_getI (pc' := 4) (v := s0 98 13) rfl rfl rfl rfl rfl es55.2.2.2.2 (fun z60 hz60 => ?_)
                    have tz60 := tf_98_13 I0
                    refine h_zne (tg := 20) (pc' := 7) rfl rfl rfl hz60 (fun c61 => absurd c61 (by omega)) (fun c61 => ?_)
                    refine h_aload_n (pc' := 8) rfl rfl rfl ?_
                    refine h_iload_n (pc' := 9) rfl rfl rfl ?_
                    refine h_put (pc' := 12) rfl rfl rfl rfl rfl rfl ci_1 rfl (h_fgt (E := fun s => s 98 15 = s0 98 15 ∧ s 98 16 = (s0 98 15) ∧ s 98 17 = 2 ∧ s 98 18 = 0 ∧ s 98 13 = 1) _ (if_98_13 Is55 (by omega)) (Fs55.up rfl) ⟨es55.1, es55.2.1, es55.2.2.1, es55.2.2.2.1, rfl⟩ (fun s62 Is62 Fs62 (es62 : s62 98 15 = s0 98 15 ∧ s62 98 16 = (s0 98 15) ∧ s62 98 17 = 2 ∧ s62 98 18 = 0 ∧ s62 98 13 = 1) => ?_))
                    clear es55
                    refine h_aload_n (pc' := 13) rfl rfl rfl ?_
                    refine h_aload_n (pc' := 14) rfl rfl rfl ?_
                    refine h_getI (pc' := 17) (v := (s0 98 15)) rfl rfl rfl rfl rfl es62.2.1 (fun z63 hz63 => ?_)
                    refine h_put (pc' := 20) rfl rfl rfl rfl rfl rfl hz63 rfl (h_fgt (E := fun s => s 98 15 = s0 98 15 ∧ s 98 16 = (s0 98 15) ∧ s 98 17 = 2 ∧ s 98 18 = 0 ∧ s 98 13 = 1) _ (if_98_14 Is62 (h_rgv hz63)) (Fs62.up rfl) ⟨es62.1, es62.2.1, es62.2.2.1, es62.2.2.2.1, es62.2.2.2.2⟩ (fun s64 Is64 Fs64 (es64 : s64 98 15 = s0 98 15 ∧ s64 98 16 = (s0 98 15) ∧ s64 98 17 = 2 ∧ s64 98 18 = 0 ∧ s64 98 13 = 1) => ?_))
                    clear es62
                    refine h_vret rfl rfl (h_Kn ?_)
                    refine h_goto (pc' := 269) rfl rfl ?_
                    exact h_vret rfl rfl (kk _ Is64 Fs64 (Or.inr (Or.inl ⟨by omega, by omega, by omega, by omega⟩)))
                · refine h_aload_n (pc' := 9) rfl rfl rfl ?_
                  refine h_getR (pc' := 12) rfl rfl rfl rfl rfl ?_
                  refine h_iload_n (pc' := 13) rfl rfl rfl ?_
                  refine h_iald (pc' := 14) (v := σ 102 (s0 98 15)) rfl rfl rfl hz48 (by omega) (by omega) (Fs14 102 _ rfl) (fun z65 hz65 => ?_)
                  have tz65 := ty_102 hI (s0 98 15)
                  refine h_goto (pc' := 19) rfl rfl ?_
                  refine h_iret rfl rfl (h_Kv ?_)
                  refine h_i2l (pc' := 149) rfl rfl hz65 (fun z66 hz66 => ?_)
                  refine h_ldc2 (pc' := 152) (x := (Int64.ofInt 48)) rfl rfl rfl ?_
                  refine h_ldc2 (pc' := 155) (x := (Int64.ofInt 57)) rfl rfl rfl ?_
                  refine h_calls (pc' := 158) (M := [(0, .long z66), (2, .long (Int64.ofInt 48)), (4, .long (Int64.ofInt 57))]) rfl rfl rfl rfl rfl rfl ?_
                  refine h_lload_n (pc' := 1) rfl rfl rfl ?_
                  refine h_lload_n (pc' := 2) rfl rfl rfl ?_
                  refine h_lcmp (pc' := 3) rfl rfl hz66 cl_48 (fun z67 hz67 => ?_)
                  refine h_zlt (tg := 17) (pc' := 6) rfl rfl rfl rfl (fun c68 => absurd c68 (by omega)) (fun c68 => ?_)
                  replace c68 := (h_lcr hz67).2.1 c68
                  clear hz67
                  refine h_lload_n (pc' := 7) rfl rfl rfl ?_
                  refine h_lload (pc' := 9) rfl rfl rfl ?_
                  refine h_lcmp (pc' := 10) rfl rfl hz66 cl_57 (fun z69 hz69 => ?_)
                  refine h_zgt (tg := 17) (pc' := 13) rfl rfl rfl rfl (fun c70 => absurd c70 (by omega)) (fun c70 => ?_)
                  replace c70 := (h_lcr hz69).2.2.1 c70
                  clear hz69
                  refine h_iconst (pc' := 14) (x := (Int32.ofInt 1)) rfl rfl rfl ?_
                  refine h_goto (pc' := 18) rfl rfl ?_
                  refine h_zret rfl rfl ci_1 (by omega) (h_Kv ?_)
                  refine h_zeq (tg := 217) (pc' := 161) rfl rfl rfl ci_1 (fun c71 => absurd c71 (by omega)) (fun c71 => ?_)
                  refine h_aload_n (pc' := 162) rfl rfl rfl ?_
                  refine h_aload_n (pc' := 163) rfl rfl rfl ?_
                  refine h_getI (pc' := 166) (v := s0 98 15) rfl rfl rfl rfl rfl es14.1 (fun z72 hz72 => ?_)
                  have tz72 := tf_98_15 I0
                  refine h_aload_n (pc' := 167) rfl rfl rfl ?_
                  refine h_getI (pc' := 170) (v := (s0 98 15)) rfl rfl rfl rfl rfl es14.2.1 (fun z73 hz73 => ?_)
                  refine h_isub (pc' := 171) rfl rfl hz72 hz73 rfl (by omega) (by omega) (fun z74 hz74 => ?_)
                  refine h_iconst (pc' := 172) (x := (Int32.ofInt 2)) rfl rfl rfl ?_
                  refine h_cge (tg := 197) (pc' := 175) rfl rfl rfl hz74 ci_2 (fun c75 => ?_) (fun c75 => ?_)
                  · refine h_aload_n (pc' := 198) rfl rfl rfl ?_
                    refine h_getI (pc' := 201) (v := 0) rfl rfl rfl rfl rfl es14.2.2.2.1 (fun z76 hz76 => ?_)
                    refine h_put (pc' := 204) rfl rfl rfl rfl rfl rfl hz76 rfl (h_fgt (E := fun s => s 98 15 = s0 98 15 ∧ s 98 16 = (s0 98 15) ∧ s 98 17 = s0 98 17 ∧ s 98 18 = 0 ∧ s 98 13 = s0 98 13) _ (if_98_18 Is14 (by omega)) (Fs14.up rfl) ⟨es14.1, es14.2.1, es14.2.2.1, rfl, es14.2.2.2.2⟩ (fun s77 Is77 Fs77 (es77 : s77 98 15 = s0 98 15 ∧ s77 98 16 = (s0 98 15) ∧ s77 98 17 = s0 98 17 ∧ s77 98 18 = 0 ∧ s77 98 13 = s0 98 13) => ?_))
                    clear es14
                    refine h_aload_n (pc' := 205) rfl rfl rfl ?_
                    refine h_dup (pc' := 206) rfl rfl rfl ?_
                    refine h_getI (pc' := 209) (v := s0 98 15) rfl rfl rfl rfl rfl es77.1 (fun z78 hz78 => ?_)
                    have tz78 := tf_98_15 I0
                    refine h_iconst (pc' := 210) (x := (Int32.ofInt 1)) rfl rfl rfl ?_
                    refine h_iadd (pc' := 211) rfl rfl hz78 ci_1 rfl (by omega) (by omega) (fun z79 hz79 => ?_)
                    refine h_put (pc' := 214) rfl rfl rfl rfl rfl rfl hz79 rfl (h_fgt (E := fun s => s 98 15 = ((s0 98 15) + 1) ∧ s 98 16 = (s0 98 15) ∧ s 98 17 = s0 98 17 ∧ s 98 18 = 0 ∧ s 98 13 = s0 98 13) _ (if_98_15 Is77 (by omega)) (Fs77.up rfl) ⟨rfl, es77.2.1, es77.2.2.1, es77.2.2.2.1, es77.2.2.2.2⟩ (fun s80 Is80 Fs80 (es80 : s80 98 15 = ((s0 98 15) + 1) ∧ s80 98 16 = (s0 98 15) ∧ s80 98 17 = s0 98 17 ∧ s80 98 18 = 0 ∧ s80 98 13 = s0 98 13) => ?_))
                    clear es77
                    refine h_goto (pc' := 140) rfl rfl ?_
                    exact h_wk [(0, .ref 98), (1, .int z13)] ⟨rfl, rfl, trivial⟩ (ih.2.2 _ Is80 Fs80 z13 _ hz13 (by omega) (by omega) (by omega) (by omega) (by omega) (by omega) (by omega))
                  · refine h_bipush (pc' := 177) (x := (Int32.ofInt 10)) rfl rfl cb_10 ?_
                    refine h_aload_n (pc' := 178) rfl rfl rfl ?_
                    refine h_getI (pc' := 181) (v := 0) rfl rfl rfl rfl rfl es14.2.2.2.1 (fun z81 hz81 => ?_)
                    refine h_imul (pc' := 182) rfl rfl ci_10 hz81 rfl (by omega) (by omega) (fun z82 hz82 => ?_)
                    refine h_aload_n (pc' := 183) rfl rfl rfl ?_
                    refine h_aload_n (pc' := 184) rfl rfl rfl ?_
                    refine h_getI (pc' := 187) (v := s0 98 15) rfl rfl rfl rfl rfl es14.1 (fun z83 hz83 => ?_)
                    have tz83 := tf_98_15 I0
                    refine h_call (sp := false) (pc' := 190) (M := [(0, .ref 98), (1, .int z83)]) rfl rfl rfl rfl rfl rfl rfl rfl ?_
                    refine h_iload_n (pc' := 1) rfl rfl rfl ?_
                    refine h_aload_n (pc' := 2) rfl rfl rfl ?_
                    refine h_getI (pc' := 5) (v := σ 98 11) rfl rfl rfl rfl rfl (Fs14 98 11 rfl) (fun z84 hz84 => ?_)
                    have tz84 := tf_98_11 hI
                    refine h_cge (tg := 17) (pc' := 8) rfl rfl rfl hz83 hz84 (fun c85 => ?_) (fun c85 => ?_)
                    · refine h_bipush (pc' := 19) (x := (Int32.ofInt (-4))) rfl rfl cb_m4 ?_
                      refine h_iret rfl rfl (h_Kv ?_)
                      refine h_iadd (pc' := 191) rfl rfl hz82 ci_m4 rfl (by omega) (by omega) (fun z86 hz86 => ?_)
                      refine h_bipush (pc' := 193) (x := (Int32.ofInt 48)) rfl rfl cb_48 ?_
                      refine h_isub (pc' := 194) rfl rfl hz86 ci_48 rfl (by omega) (by omega) (fun z87 hz87 => ?_)
                      refine h_goto (pc' := 201) rfl rfl ?_
                      refine h_put (pc' := 204) rfl rfl rfl rfl rfl rfl hz87 rfl (h_fgt (E := fun s => s 98 15 = s0 98 15 ∧ s 98 16 = (s0 98 15) ∧ s 98 17 = s0 98 17 ∧ s 98 18 = (((10 * 0) + (-4)) - 48) ∧ s 98 13 = s0 98 13) _ (if_98_18 Is14 (by omega)) (Fs14.up rfl) ⟨es14.1, es14.2.1, es14.2.2.1, rfl, es14.2.2.2.2⟩ (fun s88 Is88 Fs88 (es88 : s88 98 15 = s0 98 15 ∧ s88 98 16 = (s0 98 15) ∧ s88 98 17 = s0 98 17 ∧ s88 98 18 = (((10 * 0) + (-4)) - 48) ∧ s88 98 13 = s0 98 13) => ?_))
                      clear es14
                      refine h_aload_n (pc' := 205) rfl rfl rfl ?_
                      refine h_dup (pc' := 206) rfl rfl rfl ?_
                      refine h_getI (pc' := 209) (v := s0 98 15) rfl rfl rfl rfl rfl es88.1 (fun z89 hz89 => ?_)
                      have tz89 := tf_98_15 I0
                      refine h_iconst (pc' := 210) (x := (Int32.ofInt 1)) rfl rfl rfl ?_
                      refine h_iadd (pc' := 211) rfl rfl hz89 ci_1 rfl (by omega) (by omega) (fun z90 hz90 => ?_)
                      refine h_put (pc' := 214) rfl rfl rfl rfl rfl rfl hz90 rfl (h_fgt (E := fun s => s 98 15 = ((s0 98 15) + 1) ∧ s 98 16 = (s0 98 15) ∧ s 98 17 = s0 98 17 ∧ s 98 18 = (((10 * 0) + (-4)) - 48) ∧ s 98 13 = s0 98 13) _ (if_98_15 Is88 (by omega)) (Fs88.up rfl) ⟨rfl, es88.2.1, es88.2.2.1, es88.2.2.2.1, es88.2.2.2.2⟩ (fun s91 Is91 Fs91 (es91 : s91 98 15 = ((s0 98 15) + 1) ∧ s91 98 16 = (s0 98 15) ∧ s91 98 17 = s0 98 17 ∧ s91 98 18 = (((10 * 0) + (-4)) - 48) ∧ s91 98 13 = s0 98 13) => ?_))
                      clear es88
                      refine h_goto (pc' := 140) rfl rfl ?_
                      exact h_wk [(0, .ref 98), (1, .int z13)] ⟨rfl, rfl, trivial⟩ (ih.2.2 _ Is91 Fs91 z13 _ hz13 (by omega) (by omega) (by omega) (by omega) (by omega) (by omega) (by omega))
                    · refine h_aload_n (pc' := 9) rfl rfl rfl ?_
                      refine h_getR (pc' := 12) rfl rfl rfl rfl rfl ?_
                      refine h_iload_n (pc' := 13) rfl rfl rfl ?_
                      refine h_iald (pc' := 14) (v := σ 102 (s0 98 15)) rfl rfl rfl hz83 (by omega) (by omega) (Fs14 102 _ rfl) (fun z92 hz92 => ?_)
                      have tz92 := ty_102 hI (s0 98 15)
                      refine h_goto (pc' := 19) rfl rfl ?_
                      refine h_iret rfl rfl (h_Kv ?_)
                      refine h_iadd (pc' := 191) rfl rfl hz82 hz92 rfl (by omega) (by omega) (fun z93 hz93 => ?_)
                      refine h_bipush (pc' := 193) (x := (Int32.ofInt 48)) rfl rfl cb_48 ?_
                      refine h_isub (pc' := 194) rfl rfl hz93 ci_48 rfl (by omega) (by omega) (fun z94 hz94 => ?_)
                      refine h_goto (pc' := 201) rfl rfl ?_
                      refine h_put (pc' := 204) rfl rfl rfl rfl rfl rfl hz94 rfl (h_fgt (E := fun s => s 98 15 = s0 98 15 ∧ s 98 16 = (s0 98 15) ∧ s 98 17 = s0 98 17 ∧ s 98 18 = (((10 * 0) + (σ 102 (s0 98 15))) - 48) ∧ s 98 13 = s0 98 13) _ (if_98_18 Is14 (by omega)) (Fs14.up rfl) ⟨es14.1, es14.2.1, es14.2.2.1, rfl, es14.2.2.2.2⟩ (fun s95 Is95 Fs95 (es95 : s95 98 15 = s0 98 15 ∧ s95 98 16 = (s0 98 15) ∧ s95 98 17 = s0 98 17 ∧ s95 98 18 = (((10 * 0) + (σ 102 (s0 98 15))) - 48) ∧ s95 98 13 = s0 98 13) => ?_))
                      clear es14
                      refine h_aload_n (pc' := 205) rfl rfl rfl ?_
                      refine h_dup (pc' := 206) rfl rfl rfl ?_
                      refine h_getI (pc' := 209) (v := s0 98 15) rfl rfl rfl rfl rfl es95.1 (fun z96 hz96 => ?_)
                      have tz96 := tf_98_15 I0
                      refine h_iconst (pc' := 210) (x := (Int32.ofInt 1)) rfl rfl rfl ?_
                      refine h_iadd (pc' := 211) rfl rfl hz96 ci_1 rfl (by omega) (by omega) (fun z97 hz97 => ?_)
                      refine h_put (pc' := 214) rfl rfl rfl rfl rfl rfl hz97 rfl (h_fgt (E := fun s => s 98 15 = ((s0 98 15) + 1) ∧ s 98 16 = (s0 98 15) ∧ s 98 17 = s0 98 17 ∧ s 98 18 = (((10 * 0) + (σ 102 (s0 98 15))) - 48) ∧ s 98 13 = s0 98 13) _ (if_98_15 Is95 (by omega)) (Fs95.up rfl) ⟨rfl, es95.2.1, es95.2.2.1, es95.2.2.2.1, es95.2.2.2.2⟩ (fun s98 Is98 Fs98 (es98 : s98 98 15 = ((s0 98 15) + 1) ∧ s98 98 16 = (s0 98 15) ∧ s98 98 17 = s0 98 17 ∧ s98 98 18 = (((10 * 0) + (σ 102 (s0 98 15))) - 48) ∧ s98 98 13 = s0 98 13) => ?_))
                      clear es95
                      refine h_goto (pc' := 140) rfl rfl ?_
                      exact h_wk [(0, .ref 98), (1, .int z13)] ⟨rfl, rfl, trivial⟩ (ih.2.2 _ Is98 Fs98 z13 _ hz13 (by omega) (by omega) (by omega) (by omega) (by omega) (by omega) (by omega))
          · replace c18 := (h_lcr hz17).2.1 c18
            clear hz17
            refine h_lload_n (pc' := 7) rfl rfl rfl ?_
            refine h_lload (pc' := 9) rfl rfl rfl ?_
            refine h_lcmp (pc' := 10) rfl rfl hz16 cl_122 (fun z99 hz99 => ?_)
            refine h_zgt (tg := 17) (pc' := 13) rfl rfl rfl rfl (fun c100 => ?_) (fun c100 => ?_)
            · replace c100 := (h_lcr hz99).2.2.2.1 c100
              clear hz99
              refine h_iconst (pc' := 18) (x := (Int32.ofInt 0)) rfl rfl rfl ?_
              refine h_zret rfl rfl ci_0 (by omega) (h_Kv ?_)
              refine h_zeq (tg := 126) (pc' := 84) rfl rfl rfl ci_0 (fun c101 => ?_) (fun c101 => absurd c101 (by omega))
              refine h_iload_n (pc' := 127) rfl rfl rfl ?_
              refine h_i2l (pc' := 128) rfl rfl hz13 (fun z102 hz102 => ?_)
              refine h_ldc2 (pc' := 131) (x := (Int64.ofInt 48)) rfl rfl rfl ?_
              refine h_ldc2 (pc' := 134) (x := (Int64.ofInt 57)) rfl rfl rfl ?_
              refine h_calls (pc' := 137) (M := [(0, .long z102), (2, .long (Int64.ofInt 48)), (4, .long (Int64.ofInt 57))]) rfl rfl rfl rfl rfl rfl ?_
              refine h_lload_n (pc' := 1) rfl rfl rfl ?_
              refine h_lload_n (pc' := 2) rfl rfl rfl ?_
              refine h_lcmp (pc' := 3) rfl rfl hz102 cl_48 (fun z103 hz103 => ?_)
              refine h_zlt (tg := 17) (pc' := 6) rfl rfl rfl rfl (fun c104 => absurd c104 (by omega)) (fun c104 => ?_)
              replace c104 := (h_lcr hz103).2.1 c104
              clear hz103
              refine h_lload_n (pc' := 7) rfl rfl rfl ?_
              refine h_lload (pc' := 9) rfl rfl rfl ?_
              refine h_lcmp (pc' := 10) rfl rfl hz102 cl_57 (fun z105 hz105 => ?_)
              refine h_zgt (tg := 17) (pc' := 13) rfl rfl rfl rfl (fun c106 => ?_) (fun c106 => absurd c106 (by omega))
              replace c106 := (h_lcr hz105).2.2.2.1 c106
              clear hz105
              refine h_iconst (pc' := 18) (x := (Int32.ofInt 0)) rfl rfl rfl ?_
              refine h_zret rfl rfl ci_0 (by omega) (h_Kv ?_)
              refine h_zeq (tg := 243) (pc' := 140) rfl rfl rfl ci_0 (fun c107 => ?_) (fun c107 => absurd c107 (by omega))
              refine h_aload_n (pc' := 244) rfl rfl rfl ?_
              refine h_iconst (pc' := 245) (x := (Int32.ofInt 3)) rfl rfl rfl ?_
              refine h_put (pc' := 248) rfl rfl rfl rfl rfl rfl ci_3 rfl (h_fgt (E := fun s => s 98 15 = s0 98 15 ∧ s 98 16 = (s0 98 15) ∧ s 98 17 = 3 ∧ s 98 18 = 0 ∧ s 98 13 = s0 98 13) _ (if_98_17 Is14 (by omega)) (Fs14.up rfl) ⟨es14.1, es14.2.1, rfl, es14.2.2.2.1, es14.2.2.2.2⟩ (fun s108 Is108 Fs108 (es108 : s108 98 15 = s0 98 15 ∧ s108 98 16 = (s0 98 15) ∧ s108 98 17 = 3 ∧ s108 98 18 = 0 ∧ s108 98 13 = s0 98 13) => ?_))
              clear es14
              refine h_aload_n (pc' := 249) rfl rfl rfl ?_
              refine h_dup (pc' := 250) rfl rfl rfl ?_
              refine h_getI (pc' := 253) (v := s0 98 15) rfl rfl rfl rfl rfl es108.1 (fun z109 hz109 => ?_)
              have tz109 := tf_98_15 I0
              refine h_iconst (pc' := 254) (x := (Int32.ofInt 1)) rfl rfl rfl ?_
              refine h_iadd (pc' := 255) rfl rfl hz109 ci_1 rfl (by omega) (by omega) (fun z110 hz110 => ?_)
              refine h_put (pc' := 258) rfl rfl rfl rfl rfl rfl hz110 rfl (h_fgt (E := fun s => s 98 15 = ((s0 98 15) + 1) ∧ s 98 16 = (s0 98 15) ∧ s 98 17 = 3 ∧ s 98 18 = 0 ∧ s 98 13 = s0 98 13) _ (if_98_15 Is108 (by omega)) (Fs108.up rfl) ⟨rfl, es108.2.1, es108.2.2.1, es108.2.2.2.1, es108.2.2.2.2⟩ (fun s111 Is111 Fs111 (es111 : s111 98 15 = ((s0 98 15) + 1) ∧ s111 98 16 = (s0 98 15) ∧ s111 98 17 = 3 ∧ s111 98 18 = 0 ∧ s111 98 13 = s0 98 13) => ?_))
              clear es108
              refine h_iload_n (pc' := 259) rfl rfl rfl ?_
              refine h_bipush (pc' := 261) (x := (Int32.ofInt 59)) rfl rfl cb_59 ?_
              refine h_ceq (tg := 269) (pc' := 264) rfl rfl rfl hz13 ci_59 (fun c112 => absurd c112 (by omega)) (fun c112 => ?_)
              refine h_aload_n (pc' := 265) rfl rfl rfl ?_
              refine h_iconst (pc' := 266) (x := (Int32.ofInt 1)) rfl rfl rfl ?_
              refine h_call (sp := false) (pc' := 269) (M := [(0, .ref 98), (1, .int (Int32.ofInt 1))]) rfl rfl rfl rfl rfl rfl rfl rfl ?_
              refine h_aload_n (pc' := 1) rfl rfl rfl ?_
              refine h_getI (pc' := 4) (v := s0 98 13) rfl rfl rfl rfl rfl es111.2.2.2.2 (fun z113 hz113 => ?_)
              have tz113 := tf_98_13 I0
              refine h_zne (tg := 20) (pc' := 7) rfl rfl rfl hz113 (fun c114 => absurd c114 (by omega)) (fun c114 => ?_)
              refine h_aload_n (pc' := 8) rfl rfl rfl ?_
              refine h_iload_n (pc' := 9) rfl rfl rfl ?_
              refine h_put (pc' := 12) rfl rfl rfl rfl rfl rfl ci_1 rfl (h_fgt (E := fun s => s 98 15 = ((s0 98 15) + 1) ∧ s 98 16 = (s0 98 15) ∧ s 98 17 = 3 ∧ s 98 18 = 0 ∧ s 98 13 = 1) _ (if_98_13 Is111 (by omega)) (Fs111.up rfl) ⟨es111.1, es111.2.1, es111.2.2.1, es111.2.2.2.1, rfl⟩ (fun s115 Is115 Fs115 (es115 : s115 98 15 = ((s0 98 15) + 1) ∧ s115 98 16 = (s0 98 15) ∧ s115 98 17 = 3 ∧ s115 98 18 = 0 ∧ s115 98 13 = 1) => ?_))
              clear es111
              refine h_aload_n (pc' := 13) rfl rfl rfl ?_
              refine h_aload_n (pc' := 14) rfl rfl rfl ?_
              refine h_getI (pc' := 17) (v := (s0 98 15)) rfl rfl rfl rfl rfl es115.2.1 (fun z116 hz116 => ?_)
              refine h_put (pc' := 20) rfl rfl rfl rfl rfl rfl hz116 rfl (h_fgt (E := fun s => s 98 15 = ((s0 98 15) + 1) ∧ s 98 16 = (s0 98 15) ∧ s 98 17 = 3 ∧ s 98 18 = 0 ∧ s 98 13 = 1) _ (if_98_14 Is115 (h_rgv hz116)) (Fs115.up rfl) ⟨es115.1, es115.2.1, es115.2.2.1, es115.2.2.2.1, es115.2.2.2.2⟩ (fun s117 Is117 Fs117 (es117 : s117 98 15 = ((s0 98 15) + 1) ∧ s117 98 16 = (s0 98 15) ∧ s117 98 17 = 3 ∧ s117 98 18 = 0 ∧ s117 98 13 = 1) => ?_))
              clear es115
              refine h_vret rfl rfl (h_Kn ?_)
              exact h_vret rfl rfl (kk _ Is117 Fs117 (Or.inr (Or.inl ⟨by omega, by omega, by omega, by omega⟩)))
            · replace c100 := (h_lcr hz99).2.2.1 c100
              clear hz99
              refine h_iconst (pc' := 14) (x := (Int32.ofInt 1)) rfl rfl rfl ?_
              refine h_goto (pc' := 18) rfl rfl ?_
              refine h_zret rfl rfl ci_1 (by omega) (h_Kv ?_)
              refine h_zeq (tg := 126) (pc' := 84) rfl rfl rfl ci_1 (fun c118 => absurd c118 (by omega)) (fun c118 => ?_)
              refine h_aload_n (pc' := 85) rfl rfl rfl ?_
              refine h_aload_n (pc' := 86) rfl rfl rfl ?_
              refine h_getI (pc' := 89) (v := s0 98 15) rfl rfl rfl rfl rfl es14.1 (fun z119 hz119 => ?_)
              have tz119 := tf_98_15 I0
              refine h_call (sp := false) (pc' := 92) (M := [(0, .ref 98), (1, .int z119)]) rfl rfl rfl rfl rfl rfl rfl rfl ?_
              refine h_iload_n (pc' := 1) rfl rfl rfl ?_
              refine h_aload_n (pc' := 2) rfl rfl rfl ?_
              refine h_getI (pc' := 5) (v := σ 98 11) rfl rfl rfl rfl rfl (Fs14 98 11 rfl) (fun z120 hz120 => ?_)
              have tz120 := tf_98_11 hI
              refine h_cge (tg := 17) (pc' := 8) rfl rfl rfl hz119 hz120 (fun c121 => ?_) (fun c121 => ?_)
              · refine h_bipush (pc' := 19) (x := (Int32.ofInt (-4))) rfl rfl cb_m4 ?_
                refine h_iret rfl rfl (h_Kv ?_)
                refine h_i2l (pc' := 93) rfl rfl ci_m4 (fun z122 hz122 => ?_)
                refine h_ldc2 (pc' := 96) (x := (Int64.ofInt 97)) rfl rfl rfl ?_
                refine h_ldc2 (pc' := 99) (x := (Int64.ofInt 122)) rfl rfl rfl ?_
                refine h_calls (pc' := 102) (M := [(0, .long z122), (2, .long (Int64.ofInt 97)), (4, .long (Int64.ofInt 122))]) rfl rfl rfl rfl rfl rfl ?_
                refine h_lload_n (pc' := 1) rfl rfl rfl ?_
                refine h_lload_n (pc' := 2) rfl rfl rfl ?_
                refine h_lcmp (pc' := 3) rfl rfl hz122 cl_97 (fun z123 hz123 => ?_)
                refine h_zlt (tg := 17) (pc' := 6) rfl rfl rfl rfl (fun c124 => ?_) (fun c124 => absurd c124 (by omega))
                replace c124 := (h_lcr hz123).1 c124
                clear hz123
                refine h_iconst (pc' := 18) (x := (Int32.ofInt 0)) rfl rfl rfl ?_
                refine h_zret rfl rfl ci_0 (by omega) (h_Kv ?_)
                refine h_zeq (tg := 118) (pc' := 105) rfl rfl rfl ci_0 (fun c125 => ?_) (fun c125 => absurd c125 (by omega))
                refine h_aload_n (pc' := 119) rfl rfl rfl ?_
                refine h_iconst (pc' := 120) (x := (Int32.ofInt 1)) rfl rfl rfl ?_
                refine h_put (pc' := 123) rfl rfl rfl rfl rfl rfl ci_1 rfl (h_fgt (E := fun s => s 98 15 = s0 98 15 ∧ s 98 16 = (s0 98 15) ∧ s 98 17 = 1 ∧ s 98 18 = 0 ∧ s 98 13 = s0 98 13) _ (if_98_17 Is14 (by omega)) (Fs14.up rfl) ⟨es14.1, es14.2.1, rfl, es14.2.2.2.1, es14.2.2.2.2⟩ (fun s126 Is126 Fs126 (es126 : s126 98 15 = s0 98 15 ∧ s126 98 16 = (s0 98 15) ∧ s126 98 17 = 1 ∧ s126 98 18 = 0 ∧ s126 98 13 = s0 98 13) => ?_))
                clear es14
                refine h_goto (pc' := 269) rfl rfl ?_
                exact h_vret rfl rfl (kk _ Is126 Fs126 (Or.inr (Or.inr (Or.inr ⟨by omega, by omega, by omega, by omega⟩))))
              · refine h_aload_n (pc' := 9) rfl rfl rfl ?_
                refine h_getR (pc' := 12) rfl rfl rfl rfl rfl ?_
                refine h_iload_n (pc' := 13) rfl rfl rfl ?_
                refine h_iald (pc' := 14) (v := σ 102 (s0 98 15)) rfl rfl rfl hz119 (by omega) (by omega) (Fs14 102 _ rfl) (fun z127 hz127 => ?_)
                have tz127 := ty_102 hI (s0 98 15)
                refine h_goto (pc' := 19) rfl rfl ?_
                refine h_iret rfl rfl (h_Kv ?_)
                refine h_i2l (pc' := 93) rfl rfl hz127 (fun z128 hz128 => ?_)
                refine h_ldc2 (pc' := 96) (x := (Int64.ofInt 97)) rfl rfl rfl ?_
                refine h_ldc2 (pc' := 99) (x := (Int64.ofInt 122)) rfl rfl rfl ?_
                refine h_calls (pc' := 102) (M := [(0, .long z128), (2, .long (Int64.ofInt 97)), (4, .long (Int64.ofInt 122))]) rfl rfl rfl rfl rfl rfl ?_
                refine h_lload_n (pc' := 1) rfl rfl rfl ?_
                refine h_lload_n (pc' := 2) rfl rfl rfl ?_
                refine h_lcmp (pc' := 3) rfl rfl hz128 cl_97 (fun z129 hz129 => ?_)
                refine h_zlt (tg := 17) (pc' := 6) rfl rfl rfl rfl (fun c130 => absurd c130 (by omega)) (fun c130 => ?_)
                replace c130 := (h_lcr hz129).2.1 c130
                clear hz129
                refine h_lload_n (pc' := 7) rfl rfl rfl ?_
                refine h_lload (pc' := 9) rfl rfl rfl ?_
                refine h_lcmp (pc' := 10) rfl rfl hz128 cl_122 (fun z131 hz131 => ?_)
                refine h_zgt (tg := 17) (pc' := 13) rfl rfl rfl rfl (fun c132 => absurd c132 (by omega)) (fun c132 => ?_)
                replace c132 := (h_lcr hz131).2.2.1 c132
                clear hz131
                refine h_iconst (pc' := 14) (x := (Int32.ofInt 1)) rfl rfl rfl ?_
                refine h_goto (pc' := 18) rfl rfl ?_
                refine h_zret rfl rfl ci_1 (by omega) (h_Kv ?_)
                refine h_zeq (tg := 118) (pc' := 105) rfl rfl rfl ci_1 (fun c133 => absurd c133 (by omega)) (fun c133 => ?_)
                refine h_aload_n (pc' := 106) rfl rfl rfl ?_
                refine h_dup (pc' := 107) rfl rfl rfl ?_
                refine h_getI (pc' := 110) (v := s0 98 15) rfl rfl rfl rfl rfl es14.1 (fun z134 hz134 => ?_)
                have tz134 := tf_98_15 I0
                refine h_iconst (pc' := 111) (x := (Int32.ofInt 1)) rfl rfl rfl ?_
                refine h_iadd (pc' := 112) rfl rfl hz134 ci_1 rfl (by omega) (by omega) (fun z135 hz135 => ?_)
                refine h_put (pc' := 115) rfl rfl rfl rfl rfl rfl hz135 rfl (h_fgt (E := fun s => s 98 15 = ((s0 98 15) + 1) ∧ s 98 16 = (s0 98 15) ∧ s 98 17 = s0 98 17 ∧ s 98 18 = 0 ∧ s 98 13 = s0 98 13) _ (if_98_15 Is14 (by omega)) (Fs14.up rfl) ⟨rfl, es14.2.1, es14.2.2.1, es14.2.2.2.1, es14.2.2.2.2⟩ (fun s136 Is136 Fs136 (es136 : s136 98 15 = ((s0 98 15) + 1) ∧ s136 98 16 = (s0 98 15) ∧ s136 98 17 = s0 98 17 ∧ s136 98 18 = 0 ∧ s136 98 13 = s0 98 13) => ?_))
                clear es14
                refine h_goto (pc' := 84) rfl rfl ?_
                exact h_wk [(0, .ref 98), (1, .int z13)] ⟨rfl, rfl, trivial⟩ (ih.2.1 _ Is136 Fs136 z13 _ hz13 (by omega) (by omega) (by omega) (by omega) (by omega) (by omega))
      · refine h_aload_n (pc' := 9) rfl rfl rfl ?_
        refine h_getR (pc' := 12) rfl rfl rfl rfl rfl ?_
        refine h_iload_n (pc' := 13) rfl rfl rfl ?_
        refine h_iald (pc' := 14) (v := σ 102 (s0 98 15)) rfl rfl rfl hz1 (by omega) (by omega) (F0_ 102 _ rfl) (fun z137 hz137 => ?_)
        have tz137 := ty_102 hI (s0 98 15)
        refine h_goto (pc' := 19) rfl rfl ?_
        refine h_iret rfl rfl (h_Kv ?_)
        refine h_bipush (pc' := 18) (x := (Int32.ofInt 32)) rfl rfl cb_32 ?_
        refine h_cne (tg := 34) (pc' := 21) rfl rfl rfl hz137 ci_32 (fun c138 => ?_) (fun c138 => ?_)
        · refine h_aload_n (pc' := 35) rfl rfl rfl ?_
          refine h_aload_n (pc' := 36) rfl rfl rfl ?_
          refine h_getI (pc' := 39) (v := s0 98 15) rfl rfl rfl rfl rfl rfl (fun z139 hz139 => ?_)
          have tz139 := tf_98_15 I0
          refine h_put (pc' := 42) rfl rfl rfl rfl rfl rfl hz139 rfl (h_fgt (E := fun s => s 98 15 = s0 98 15 ∧ s 98 16 = (s0 98 15) ∧ s 98 17 = s0 98 17 ∧ s 98 18 = s0 98 18 ∧ s 98 13 = s0 98 13) _ (if_98_16 I0 (by omega)) (F0_.up rfl) ⟨rfl, rfl, rfl, rfl, rfl⟩ (fun s140 Is140 Fs140 (es140 : s140 98 15 = s0 98 15 ∧ s140 98 16 = (s0 98 15) ∧ s140 98 17 = s0 98 17 ∧ s140 98 18 = s0 98 18 ∧ s140 98 13 = s0 98 13) => ?_))
          refine h_aload_n (pc' := 43) rfl rfl rfl ?_
          refine h_aload_n (pc' := 44) rfl rfl rfl ?_
          refine h_getI (pc' := 47) (v := s0 98 15) rfl rfl rfl rfl rfl es140.1 (fun z141 hz141 => ?_)
          have tz141 := tf_98_15 I0
          refine h_call (sp := false) (pc' := 50) (M := [(0, .ref 98), (1, .int z141)]) rfl rfl rfl rfl rfl rfl rfl rfl ?_
          refine h_iload_n (pc' := 1) rfl rfl rfl ?_
          refine h_aload_n (pc' := 2) rfl rfl rfl ?_
          refine h_getI (pc' := 5) (v := σ 98 11) rfl rfl rfl rfl rfl (Fs140 98 11 rfl) (fun z142 hz142 => ?_)
          have tz142 := tf_98_11 hI
          refine h_cge (tg := 17) (pc' := 8) rfl rfl rfl hz141 hz142 (fun c143 => ?_) (fun c143 => ?_)
          · refine h_bipush (pc' := 19) (x := (Int32.ofInt (-4))) rfl rfl cb_m4 ?_
            refine h_iret rfl rfl (h_Kv ?_)
            refine h_istore_n (pc' := 51) (M := [(1, .int (Int32.ofInt (-4))), (0, .ref 98)]) rfl rfl rfl rfl ?_
            refine h_aload_n (pc' := 52) rfl rfl rfl ?_
            refine h_iconst (pc' := 53) (x := (Int32.ofInt 0)) rfl rfl rfl ?_
            refine h_put (pc' := 56) rfl rfl rfl rfl rfl rfl ci_0 rfl (h_fgt (E := fun s => s 98 15 = s0 98 15 ∧ s 98 16 = (s0 98 15) ∧ s 98 17 = s0 98 17 ∧ s 98 18 = 0 ∧ s 98 13 = s0 98 13) _ (if_98_18 Is140 (by omega)) (Fs140.up rfl) ⟨es140.1, es140.2.1, es140.2.2.1, rfl, es140.2.2.2.2⟩ (fun s144 Is144 Fs144 (es144 : s144 98 15 = s0 98 15 ∧ s144 98 16 = (s0 98 15) ∧ s144 98 17 = s0 98 17 ∧ s144 98 18 = 0 ∧ s144 98 13 = s0 98 13) => ?_))
            clear es140
            refine h_iload_n (pc' := 57) rfl rfl rfl ?_
            refine h_bipush (pc' := 59) (x := (Int32.ofInt (-4))) rfl rfl cb_m4 ?_
            refine h_cne (tg := 70) (pc' := 62) rfl rfl rfl ci_m4 ci_m4 (fun c145 => absurd c145 (by omega)) (fun c145 => ?_)
            refine h_aload_n (pc' := 63) rfl rfl rfl ?_
            refine h_iconst (pc' := 64) (x := (Int32.ofInt 0)) rfl rfl rfl ?_
            refine h_put (pc' := 67) rfl rfl rfl rfl rfl rfl ci_0 rfl (h_fgt (E := fun s => s 98 15 = s0 98 15 ∧ s 98 16 = (s0 98 15) ∧ s 98 17 = 0 ∧ s 98 18 = 0 ∧ s 98 13 = s0 98 13) _ (if_98_17 Is144 (by omega)) (Fs144.up rfl) ⟨es144.1, es144.2.1, rfl, es144.2.2.2.1, es144.2.2.2.2⟩ (fun s146 Is146 Fs146 (es146 : s146 98 15 = s0 98 15 ∧ s146 98 16 = (s0 98 15) ∧ s146 98 17 = 0 ∧ s146 98 18 = 0 ∧ s146 98 13 = s0 98 13) => ?_))
            clear es144
            refine h_goto (pc' := 269) rfl rfl ?_
            exact h_vret rfl rfl (kk _ Is146 Fs146 (Or.inr (Or.inr (Or.inl ⟨by omega, by omega, by omega, by omega⟩))))
          · refine h_aload_n (pc' := 9) rfl rfl rfl ?_
            refine h_getR (pc' := 12) rfl rfl rfl rfl rfl ?_
            refine h_iload_n (pc' := 13) rfl rfl rfl ?_
            refine h_iald (pc' := 14) (v := σ 102 (s0 98 15)) rfl rfl rfl hz141 (by omega) (by omega) (Fs140 102 _ rfl) (fun z147 hz147 => ?_)
            have tz147 := ty_102 hI (s0 98 15)
            refine h_goto (pc' := 19) rfl rfl ?_
            refine h_iret rfl rfl (h_Kv ?_)
            refine h_istore_n (pc' := 51) (M := [(1, .int z147), (0, .ref 98)]) rfl rfl rfl rfl ?_
            refine h_aload_n (pc' := 52) rfl rfl rfl ?_
            refine h_iconst (pc' := 53) (x := (Int32.ofInt 0)) rfl rfl rfl ?_
            refine h_put (pc' := 56) rfl rfl rfl rfl rfl rfl ci_0 rfl (h_fgt (E := fun s => s 98 15 = s0 98 15 ∧ s 98 16 = (s0 98 15) ∧ s 98 17 = s0 98 17 ∧ s 98 18 = 0 ∧ s 98 13 = s0 98 13) _ (if_98_18 Is140 (by omega)) (Fs140.up rfl) ⟨es140.1, es140.2.1, es140.2.2.1, rfl, es140.2.2.2.2⟩ (fun s148 Is148 Fs148 (es148 : s148 98 15 = s0 98 15 ∧ s148 98 16 = (s0 98 15) ∧ s148 98 17 = s0 98 17 ∧ s148 98 18 = 0 ∧ s148 98 13 = s0 98 13) => ?_))
            clear es140
            refine h_iload_n (pc' := 57) rfl rfl rfl ?_
            refine h_bipush (pc' := 59) (x := (Int32.ofInt (-4))) rfl rfl cb_m4 ?_
            refine h_cne (tg := 70) (pc' := 62) rfl rfl rfl hz147 ci_m4 (fun c149 => ?_) (fun c149 => absurd c149 (by omega))
            refine h_iload_n (pc' := 71) rfl rfl rfl ?_
            refine h_i2l (pc' := 72) rfl rfl hz147 (fun z150 hz150 => ?_)
            refine h_ldc2 (pc' := 75) (x := (Int64.ofInt 97)) rfl rfl rfl ?_
            refine h_ldc2 (pc' := 78) (x := (Int64.ofInt 122)) rfl rfl rfl ?_
            refine h_calls (pc' := 81) (M := [(0, .long z150), (2, .long (Int64.ofInt 97)), (4, .long (Int64.ofInt 122))]) rfl rfl rfl rfl rfl rfl ?_
            refine h_lload_n (pc' := 1) rfl rfl rfl ?_
            refine h_lload_n (pc' := 2) rfl rfl rfl ?_
            refine h_lcmp (pc' := 3) rfl rfl hz150 cl_97 (fun z151 hz151 => ?_)
            refine h_zlt (tg := 17) (pc' := 6) rfl rfl rfl rfl (fun c152 => ?_) (fun c152 => ?_)
            · replace c152 := (h_lcr hz151).1 c152
              clear hz151
              refine h_iconst (pc' := 18) (x := (Int32.ofInt 0)) rfl rfl rfl ?_
              refine h_zret rfl rfl ci_0 (by omega) (h_Kv ?_)
              refine h_zeq (tg := 126) (pc' := 84) rfl rfl rfl ci_0 (fun c153 => ?_) (fun c153 => absurd c153 (by omega))
              refine h_iload_n (pc' := 127) rfl rfl rfl ?_
              refine h_i2l (pc' := 128) rfl rfl hz147 (fun z154 hz154 => ?_)
              refine h_ldc2 (pc' := 131) (x := (Int64.ofInt 48)) rfl rfl rfl ?_
              refine h_ldc2 (pc' := 134) (x := (Int64.ofInt 57)) rfl rfl rfl ?_
              refine h_calls (pc' := 137) (M := [(0, .long z154), (2, .long (Int64.ofInt 48)), (4, .long (Int64.ofInt 57))]) rfl rfl rfl rfl rfl rfl ?_
              refine h_lload_n (pc' := 1) rfl rfl rfl ?_
              refine h_lload_n (pc' := 2) rfl rfl rfl ?_
              refine h_lcmp (pc' := 3) rfl rfl hz154 cl_48 (fun z155 hz155 => ?_)
              refine h_zlt (tg := 17) (pc' := 6) rfl rfl rfl rfl (fun c156 => ?_) (fun c156 => ?_)
              · replace c156 := (h_lcr hz155).1 c156
                clear hz155
                refine h_iconst (pc' := 18) (x := (Int32.ofInt 0)) rfl rfl rfl ?_
                refine h_zret rfl rfl ci_0 (by omega) (h_Kv ?_)
                refine h_zeq (tg := 243) (pc' := 140) rfl rfl rfl ci_0 (fun c157 => ?_) (fun c157 => absurd c157 (by omega))
                refine h_aload_n (pc' := 244) rfl rfl rfl ?_
                refine h_iconst (pc' := 245) (x := (Int32.ofInt 3)) rfl rfl rfl ?_
                refine h_put (pc' := 248) rfl rfl rfl rfl rfl rfl ci_3 rfl (h_fgt (E := fun s => s 98 15 = s0 98 15 ∧ s 98 16 = (s0 98 15) ∧ s 98 17 = 3 ∧ s 98 18 = 0 ∧ s 98 13 = s0 98 13) _ (if_98_17 Is148 (by omega)) (Fs148.up rfl) ⟨es148.1, es148.2.1, rfl, es148.2.2.2.1, es148.2.2.2.2⟩ (fun s158 Is158 Fs158 (es158 : s158 98 15 = s0 98 15 ∧ s158 98 16 = (s0 98 15) ∧ s158 98 17 = 3 ∧ s158 98 18 = 0 ∧ s158 98 13 = s0 98 13) => ?_))
                clear es148
                refine h_aload_n (pc' := 249) rfl rfl rfl ?_
                refine h_dup (pc' := 250) rfl rfl rfl ?_
                refine h_getI (pc' := 253) (v := s0 98 15) rfl rfl rfl rfl rfl es158.1 (fun z159 hz159 => ?_)
                have tz159 := tf_98_15 I0
                refine h_iconst (pc' := 254) (x := (Int32.ofInt 1)) rfl rfl rfl ?_
                refine h_iadd (pc' := 255) rfl rfl hz159 ci_1 rfl (by omega) (by omega) (fun z160 hz160 => ?_)
                refine h_put (pc' := 258) rfl rfl rfl rfl rfl rfl hz160 rfl (h_fgt (E := fun s => s 98 15 = ((s0 98 15) + 1) ∧ s 98 16 = (s0 98 15) ∧ s 98 17 = 3 ∧ s 98 18 = 0 ∧ s 98 13 = s0 98 13) _ (if_98_15 Is158 (by omega)) (Fs158.up rfl) ⟨rfl, es158.2.1, es158.2.2.1, es158.2.2.2.1, es158.2.2.2.2⟩ (fun s161 Is161 Fs161 (es161 : s161 98 15 = ((s0 98 15) + 1) ∧ s161 98 16 = (s0 98 15) ∧ s161 98 17 = 3 ∧ s161 98 18 = 0 ∧ s161 98 13 = s0 98 13) => ?_))
                clear es158
                refine h_iload_n (pc' := 259) rfl rfl rfl ?_
                refine h_bipush (pc' := 261) (x := (Int32.ofInt 59)) rfl rfl cb_59 ?_
                refine h_ceq (tg := 269) (pc' := 264) rfl rfl rfl hz147 ci_59 (fun c162 => absurd c162 (by omega)) (fun c162 => ?_)
                refine h_aload_n (pc' := 265) rfl rfl rfl ?_
                refine h_iconst (pc' := 266) (x := (Int32.ofInt 1)) rfl rfl rfl ?_
                refine h_call (sp := false) (pc' := 269) (M := [(0, .ref 98), (1, .int (Int32.ofInt 1))]) rfl rfl rfl rfl rfl rfl rfl rfl ?_
                refine h_aload_n (pc' := 1) rfl rfl rfl ?_
                refine h_getI (pc' := 4) (v := s0 98 13) rfl rfl rfl rfl rfl es161.2.2.2.2 (fun z163 hz163 => ?_)
                have tz163 := tf_98_13 I0
                refine h_zne (tg := 20) (pc' := 7) rfl rfl rfl hz163 (fun c164 => absurd c164 (by omega)) (fun c164 => ?_)
                refine h_aload_n (pc' := 8) rfl rfl rfl ?_
                refine h_iload_n (pc' := 9) rfl rfl rfl ?_
                refine h_put (pc' := 12) rfl rfl rfl rfl rfl rfl ci_1 rfl (h_fgt (E := fun s => s 98 15 = ((s0 98 15) + 1) ∧ s 98 16 = (s0 98 15) ∧ s 98 17 = 3 ∧ s 98 18 = 0 ∧ s 98 13 = 1) _ (if_98_13 Is161 (by omega)) (Fs161.up rfl) ⟨es161.1, es161.2.1, es161.2.2.1, es161.2.2.2.1, rfl⟩ (fun s165 Is165 Fs165 (es165 : s165 98 15 = ((s0 98 15) + 1) ∧ s165 98 16 = (s0 98 15) ∧ s165 98 17 = 3 ∧ s165 98 18 = 0 ∧ s165 98 13 = 1) => ?_))
                clear es161
                refine h_aload_n (pc' := 13) rfl rfl rfl ?_
                refine h_aload_n (pc' := 14) rfl rfl rfl ?_
                refine h_getI (pc' := 17) (v := (s0 98 15)) rfl rfl rfl rfl rfl es165.2.1 (fun z166 hz166 => ?_)
                refine h_put (pc' := 20) rfl rfl rfl rfl rfl rfl hz166 rfl (h_fgt (E := fun s => s 98 15 = ((s0 98 15) + 1) ∧ s 98 16 = (s0 98 15) ∧ s 98 17 = 3 ∧ s 98 18 = 0 ∧ s 98 13 = 1) _ (if_98_14 Is165 (h_rgv hz166)) (Fs165.up rfl) ⟨es165.1, es165.2.1, es165.2.2.1, es165.2.2.2.1, es165.2.2.2.2⟩ (fun s167 Is167 Fs167 (es167 : s167 98 15 = ((s0 98 15) + 1) ∧ s167 98 16 = (s0 98 15) ∧ s167 98 17 = 3 ∧ s167 98 18 = 0 ∧ s167 98 13 = 1) => ?_))
                clear es165
                refine h_vret rfl rfl (h_Kn ?_)
                exact h_vret rfl rfl (kk _ Is167 Fs167 (Or.inr (Or.inl ⟨by omega, by omega, by omega, by omega⟩)))
              · replace c156 := (h_lcr hz155).2.1 c156
                clear hz155
                refine h_lload_n (pc' := 7) rfl rfl rfl ?_
                refine h_lload (pc' := 9) rfl rfl rfl ?_
                refine h_lcmp (pc' := 10) rfl rfl hz154 cl_57 (fun z168 hz168 => ?_)
                refine h_zgt (tg := 17) (pc' := 13) rfl rfl rfl rfl (fun c169 => ?_) (fun c169 => ?_)
                · replace c169 := (h_lcr hz168).2.2.2.1 c169
                  clear hz168
                  refine h_iconst (pc' := 18) (x := (Int32.ofInt 0)) rfl rfl rfl ?_
                  refine h_zret rfl rfl ci_0 (by omega) (h_Kv ?_)
                  refine h_zeq (tg := 243) (pc' := 140) rfl rfl rfl ci_0 (fun c170 => ?_) (fun c170 => absurd c170 (by omega))
                  refine h_aload_n (pc' := 244) rfl rfl rfl ?_
                  refine h_iconst (pc' := 245) (x := (Int32.ofInt 3)) rfl rfl rfl ?_
                  refine h_put (pc' := 248) rfl rfl rfl rfl rfl rfl ci_3 rfl (h_fgt (E := fun s => s 98 15 = s0 98 15 ∧ s 98 16 = (s0 98 15) ∧ s 98 17 = 3 ∧ s 98 18 = 0 ∧ s 98 13 = s0 98 13) _ (if_98_17 Is148 (by omega)) (Fs148.up rfl) ⟨es148.1, es148.2.1, rfl, es148.2.2.2.1, es148.2.2.2.2⟩ (fun s171 Is171 Fs171 (es171 : s171 98 15 = s0 98 15 ∧ s171 98 16 = (s0 98 15) ∧ s171 98 17 = 3 ∧ s171 98 18 = 0 ∧ s171 98 13 = s0 98 13) => ?_))
                  clear es148
                  refine h_aload_n (pc' := 249) rfl rfl rfl ?_
                  refine h_dup (pc' := 250) rfl rfl rfl ?_
                  refine h_getI (pc' := 253) (v := s0 98 15) rfl rfl rfl rfl rfl es171.1 (fun z172 hz172 => ?_)
                  have tz172 := tf_98_15 I0
                  refine h_iconst (pc' := 254) (x := (Int32.ofInt 1)) rfl rfl rfl ?_
                  refine h_iadd (pc' := 255) rfl rfl hz172 ci_1 rfl (by omega) (by omega) (fun z173 hz173 => ?_)
                  refine h_put (pc' := 258) rfl rfl rfl rfl rfl rfl hz173 rfl (h_fgt (E := fun s => s 98 15 = ((s0 98 15) + 1) ∧ s 98 16 = (s0 98 15) ∧ s 98 17 = 3 ∧ s 98 18 = 0 ∧ s 98 13 = s0 98 13) _ (if_98_15 Is171 (by omega)) (Fs171.up rfl) ⟨rfl, es171.2.1, es171.2.2.1, es171.2.2.2.1, es171.2.2.2.2⟩ (fun s174 Is174 Fs174 (es174 : s174 98 15 = ((s0 98 15) + 1) ∧ s174 98 16 = (s0 98 15) ∧ s174 98 17 = 3 ∧ s174 98 18 = 0 ∧ s174 98 13 = s0 98 13) => ?_))
                  clear es171
                  refine h_iload_n (pc' := 259) rfl rfl rfl ?_
                  refine h_bipush (pc' := 261) (x := (Int32.ofInt 59)) rfl rfl cb_59 ?_
                  refine h_ceq (tg := 269) (pc' := 264) rfl rfl rfl hz147 ci_59 (fun c175 => ?_) (fun c175 => ?_)
                  · exact h_vret rfl rfl (kk _ Is174 Fs174 (Or.inr (Or.inr (Or.inr ⟨by omega, by omega, by omega, by omega⟩))))
                  · refine h_aload_n (pc' := 265) rfl rfl rfl ?_
                    refine h_iconst (pc' := 266) (x := (Int32.ofInt 1)) rfl rfl rfl ?_
                    refine h_call (sp := false) (pc' := 269) (M := [(0, .ref 98), (1, .int (Int32.ofInt 1))]) rfl rfl rfl rfl rfl rfl rfl rfl ?_
                    refine h_aload_n (pc' := 1) rfl rfl rfl ?_
                    refine h_getI (pc' := 4) (v := s0 98 13) rfl rfl rfl rfl rfl es174.2.2.2.2 (fun z176 hz176 => ?_)
                    have tz176 := tf_98_13 I0
                    refine h_zne (tg := 20) (pc' := 7) rfl rfl rfl hz176 (fun c177 => absurd c177 (by omega)) (fun c177 => ?_)
                    refine h_aload_n (pc' := 8) rfl rfl rfl ?_
                    refine h_iload_n (pc' := 9) rfl rfl rfl ?_
                    refine h_put (pc' := 12) rfl rfl rfl rfl rfl rfl ci_1 rfl (h_fgt (E := fun s => s 98 15 = ((s0 98 15) + 1) ∧ s 98 16 = (s0 98 15) ∧ s 98 17 = 3 ∧ s 98 18 = 0 ∧ s 98 13 = 1) _ (if_98_13 Is174 (by omega)) (Fs174.up rfl) ⟨es174.1, es174.2.1, es174.2.2.1, es174.2.2.2.1, rfl⟩ (fun s178 Is178 Fs178 (es178 : s178 98 15 = ((s0 98 15) + 1) ∧ s178 98 16 = (s0 98 15) ∧ s178 98 17 = 3 ∧ s178 98 18 = 0 ∧ s178 98 13 = 1) => ?_))
                    clear es174
                    refine h_aload_n (pc' := 13) rfl rfl rfl ?_
                    refine h_aload_n (pc' := 14) rfl rfl rfl ?_
                    refine h_getI (pc' := 17) (v := (s0 98 15)) rfl rfl rfl rfl rfl es178.2.1 (fun z179 hz179 => ?_)
                    refine h_put (pc' := 20) rfl rfl rfl rfl rfl rfl hz179 rfl (h_fgt (E := fun s => s 98 15 = ((s0 98 15) + 1) ∧ s 98 16 = (s0 98 15) ∧ s 98 17 = 3 ∧ s 98 18 = 0 ∧ s 98 13 = 1) _ (if_98_14 Is178 (h_rgv hz179)) (Fs178.up rfl) ⟨es178.1, es178.2.1, es178.2.2.1, es178.2.2.2.1, es178.2.2.2.2⟩ (fun s180 Is180 Fs180 (es180 : s180 98 15 = ((s0 98 15) + 1) ∧ s180 98 16 = (s0 98 15) ∧ s180 98 17 = 3 ∧ s180 98 18 = 0 ∧ s180 98 13 = 1) => ?_))
                    clear es178
                    refine h_vret rfl rfl (h_Kn ?_)
                    exact h_vret rfl rfl (kk _ Is180 Fs180 (Or.inr (Or.inl ⟨by omega, by omega, by omega, by omega⟩)))
                · replace c169 := (h_lcr hz168).2.2.1 c169
                  clear hz168
                  refine h_iconst (pc' := 14) (x := (Int32.ofInt 1)) rfl rfl rfl ?_
                  refine h_goto (pc' := 18) rfl rfl ?_
                  refine h_zret rfl rfl ci_1 (by omega) (h_Kv ?_)
                  refine h_zeq (tg := 243) (pc' := 140) rfl rfl rfl ci_1 (fun c181 => absurd c181 (by omega)) (fun c181 => ?_)
                  refine h_aload_n (pc' := 141) rfl rfl rfl ?_
                  refine h_aload_n (pc' := 142) rfl rfl rfl ?_
                  refine h_getI (pc' := 145) (v := s0 98 15) rfl rfl rfl rfl rfl es148.1 (fun z182 hz182 => ?_)
                  have tz182 := tf_98_15 I0
                  refine h_call (sp := false) (pc' := 148) (M := [(0, .ref 98), (1, .int z182)]) rfl rfl rfl rfl rfl rfl rfl rfl ?_
                  refine h_iload_n (pc' := 1) rfl rfl rfl ?_
                  refine h_aload_n (pc' := 2) rfl rfl rfl ?_
                  refine h_getI (pc' := 5) (v := σ 98 11) rfl rfl rfl rfl rfl (Fs148 98 11 rfl) (fun z183 hz183 => ?_)
                  have tz183 := tf_98_11 hI
                  refine h_cge (tg := 17) (pc' := 8) rfl rfl rfl hz182 hz183 (fun c184 => ?_) (fun c184 => ?_)
                  · refine h_bipush (pc' := 19) (x := (Int32.ofInt (-4))) rfl rfl cb_m4 ?_
                    refine h_iret rfl rfl (h_Kv ?_)
                    refine h_i2l (pc' := 149) rfl rfl ci_m4 (fun z185 hz185 => ?_)
                    refine h_ldc2 (pc' := 152) (x := (Int64.ofInt 48)) rfl rfl rfl ?_
                    refine h_ldc2 (pc' := 155) (x := (Int64.ofInt 57)) rfl rfl rfl ?_
                    refine h_calls (pc' := 158) (M := [(0, .long z185), (2, .long (Int64.ofInt 48)), (4, .long (Int64.ofInt 57))]) rfl rfl rfl rfl rfl rfl ?_
                    refine h_lload_n (pc' := 1) rfl rfl rfl ?_
                    refine h_lload_n (pc' := 2) rfl rfl rfl ?_
                    refine h_lcmp (pc' := 3) rfl rfl hz185 cl_48 (fun z186 hz186 => ?_)
                    refine h_zlt (tg := 17) (pc' := 6) rfl rfl rfl rfl (fun c187 => ?_) (fun c187 => absurd c187 (by omega))
                    replace c187 := (h_lcr hz186).1 c187
                    clear hz186
                    refine h_iconst (pc' := 18) (x := (Int32.ofInt 0)) rfl rfl rfl ?_
                    refine h_zret rfl rfl ci_0 (by omega) (h_Kv ?_)
                    refine h_zeq (tg := 217) (pc' := 161) rfl rfl rfl ci_0 (fun c188 => ?_) (fun c188 => absurd c188 (by omega))
                    refine h_aload_n (pc' := 218) rfl rfl rfl ?_
                    refine h_iconst (pc' := 219) (x := (Int32.ofInt 2)) rfl rfl rfl ?_
                    refine h_put (pc' := 222) rfl rfl rfl rfl rfl rfl ci_2 rfl (h_fgt (E := fun s => s 98 15 = s0 98 15 ∧ s 98 16 = (s0 98 15) ∧ s 98 17 = 2 ∧ s 98 18 = 0 ∧ s 98 13 = s0 98 13) _ (if_98_17 Is148 (by omega)) (Fs148.up rfl) ⟨es148.1, es148.2.1, rfl, es148.2.2.2.1, es148.2.2.2.2⟩ (fun s189 Is189 Fs189 (es189 : s189 98 15 = s0 98 15 ∧ s189 98 16 = (s0 98 15) ∧ s189 98 17 = 2 ∧ s189 98 18 = 0 ∧ s189 98 13 = s0 98 13) => ?_))
                    clear es148
                    refine h_aload_n (pc' := 223) rfl rfl rfl ?_
                    refine h_getI (pc' := 226) (v := s0 98 15) rfl rfl rfl rfl rfl es189.1 (fun z190 hz190 => ?_)
                    have tz190 := tf_98_15 I0
                    refine h_aload_n (pc' := 227) rfl rfl rfl ?_
                    refine h_getI (pc' := 230) (v := (s0 98 15)) rfl rfl rfl rfl rfl es189.2.1 (fun z191 hz191 => ?_)
                    refine h_isub (pc' := 231) rfl rfl hz190 hz191 rfl (by omega) (by omega) (fun z192 hz192 => ?_)
                    refine h_iconst (pc' := 232) (x := (Int32.ofInt 2)) rfl rfl rfl ?_
                    refine h_cle (tg := 269) (pc' := 235) rfl rfl rfl hz192 ci_2 (fun c193 => ?_) (fun c193 => ?_)
                    · exact h_vret rfl rfl (kk _ Is189 Fs189 (Or.inr (Or.inr (Or.inr ⟨by omega, by omega, by omega, by omega⟩))))
                    · refine h_aload_n (pc' := 236) rfl rfl rfl ?_
                      refine h_iconst (pc' := 237) (x := (Int32.ofInt 1)) rfl rfl rfl ?_
                      refine h_call (sp := false) (pc' := 240) (M := [(0, .ref 98), (1, .int (Int32.ofInt 1))]) rfl rfl rfl rfl rfl rfl rfl rfl ?_
                      refine h_aload_n (pc' := 1) rfl rfl rfl ?_
                      refine h_getI (pc' := 4) (v := s0 98 13) rfl rfl rfl rfl rfl es189.2.2.2.2 (fun z194 hz194 => ?_)
                      have tz194 := tf_98_13 I0
                      refine h_zne (tg := 20) (pc' := 7) rfl rfl rfl hz194 (fun c195 => absurd c195 (by omega)) (fun c195 => ?_)
                      refine h_aload_n (pc' := 8) rfl rfl rfl ?_
                      refine h_iload_n (pc' := 9) rfl rfl rfl ?_
                      refine h_put (pc' := 12) rfl rfl rfl rfl rfl rfl ci_1 rfl (h_fgt (E := fun s => s 98 15 = s0 98 15 ∧ s 98 16 = (s0 98 15) ∧ s 98 17 = 2 ∧ s 98 18 = 0 ∧ s 98 13 = 1) _ (if_98_13 Is189 (by omega)) (Fs189.up rfl) ⟨es189.1, es189.2.1, es189.2.2.1, es189.2.2.2.1, rfl⟩ (fun s196 Is196 Fs196 (es196 : s196 98 15 = s0 98 15 ∧ s196 98 16 = (s0 98 15) ∧ s196 98 17 = 2 ∧ s196 98 18 = 0 ∧ s196 98 13 = 1) => ?_))
                      clear es189
                      refine h_aload_n (pc' := 13) rfl rfl rfl ?_
                      refine h_aload_n (pc' := 14) rfl rfl rfl ?_
                      refine h_getI (pc' := 17) (v := (s0 98 15)) rfl rfl rfl rfl rfl es196.2.1 (fun z197 hz197 => ?_)
                      refine h_put (pc' := 20) rfl rfl rfl rfl rfl rfl hz197 rfl (h_fgt (E := fun s => s 98 15 = s0 98 15 ∧ s 98 16 = (s0 98 15) ∧ s 98 17 = 2 ∧ s 98 18 = 0 ∧ s 98 13 = 1) _ (if_98_14 Is196 (h_rgv hz197)) (Fs196.up rfl) ⟨es196.1, es196.2.1, es196.2.2.1, es196.2.2.2.1, es196.2.2.2.2⟩ (fun s198 Is198 Fs198 (es198 : s198 98 15 = s0 98 15 ∧ s198 98 16 = (s0 98 15) ∧ s198 98 17 = 2 ∧ s198 98 18 = 0 ∧ s198 98 13 = 1) => ?_))
                      clear es196
                      refine h_vret rfl rfl (h_Kn ?_)
                      refine h_goto (pc' := 269) rfl rfl ?_
                      exact h_vret rfl rfl (kk _ Is198 Fs198 (Or.inr (Or.inl ⟨by omega, by omega, by omega, by omega⟩)))
                  · refine h_aload_n (pc' := 9) rfl rfl rfl ?_
                    refine h_getR (pc' := 12) rfl rfl rfl rfl rfl ?_
                    refine h_iload_n (pc' := 13) rfl rfl rfl ?_
                    refine h_iald (pc' := 14) (v := σ 102 (s0 98 15)) rfl rfl rfl hz182 (by omega) (by omega) (Fs148 102 _ rfl) (fun z199 hz199 => ?_)
                    have tz199 := ty_102 hI (s0 98 15)
                    refine h_goto (pc' := 19) rfl rfl ?_
                    refine h_iret rfl rfl (h_Kv ?_)
                    refine h_i2l (pc' := 149) rfl rfl hz199 (fun z200 hz200 => ?_)
                    refine h_ldc2 (pc' := 152) (x := (Int64.ofInt 48)) rfl rfl rfl ?_
                    refine h_ldc2 (pc' := 155) (x := (Int64.ofInt 57)) rfl rfl rfl ?_
                    refine h_calls (pc' := 158) (M := [(0, .long z200), (2, .long (Int64.ofInt 48)), (4, .long (Int64.ofInt 57))]) rfl rfl rfl rfl rfl rfl ?_
                    refine h_lload_n (pc' := 1) rfl rfl rfl ?_
                    refine h_lload_n (pc' := 2) rfl rfl rfl ?_
                    refine h_lcmp (pc' := 3) rfl rfl hz200 cl_48 (fun z201 hz201 => ?_)
                    refine h_zlt (tg := 17) (pc' := 6) rfl rfl rfl rfl (fun c202 => absurd c202 (by omega)) (fun c202 => ?_)
                    replace c202 := (h_lcr hz201).2.1 c202
                    clear hz201
                    refine h_lload_n (pc' := 7) rfl rfl rfl ?_
                    refine h_lload (pc' := 9) rfl rfl rfl ?_
                    refine h_lcmp (pc' := 10) rfl rfl hz200 cl_57 (fun z203 hz203 => ?_)
                    refine h_zgt (tg := 17) (pc' := 13) rfl rfl rfl rfl (fun c204 => absurd c204 (by omega)) (fun c204 => ?_)
                    replace c204 := (h_lcr hz203).2.2.1 c204
                    clear hz203
                    refine h_iconst (pc' := 14) (x := (Int32.ofInt 1)) rfl rfl rfl ?_
                    refine h_goto (pc' := 18) rfl rfl ?_
                    refine h_zret rfl rfl ci_1 (by omega) (h_Kv ?_)
                    refine h_zeq (tg := 217) (pc' := 161) rfl rfl rfl ci_1 (fun c205 => absurd c205 (by omega)) (fun c205 => ?_)
                    refine h_aload_n (pc' := 162) rfl rfl rfl ?_
                    refine h_aload_n (pc' := 163) rfl rfl rfl ?_
                    refine h_getI (pc' := 166) (v := s0 98 15) rfl rfl rfl rfl rfl es148.1 (fun z206 hz206 => ?_)
                    have tz206 := tf_98_15 I0
                    refine h_aload_n (pc' := 167) rfl rfl rfl ?_
                    refine h_getI (pc' := 170) (v := (s0 98 15)) rfl rfl rfl rfl rfl es148.2.1 (fun z207 hz207 => ?_)
                    refine h_isub (pc' := 171) rfl rfl hz206 hz207 rfl (by omega) (by omega) (fun z208 hz208 => ?_)
                    refine h_iconst (pc' := 172) (x := (Int32.ofInt 2)) rfl rfl rfl ?_
                    refine h_cge (tg := 197) (pc' := 175) rfl rfl rfl hz208 ci_2 (fun c209 => ?_) (fun c209 => ?_)
                    · refine h_aload_n (pc' := 198) rfl rfl rfl ?_
                      refine h_getI (pc' := 201) (v := 0) rfl rfl rfl rfl rfl es148.2.2.2.1 (fun z210 hz210 => ?_)
                      refine h_put (pc' := 204) rfl rfl rfl rfl rfl rfl hz210 rfl (h_fgt (E := fun s => s 98 15 = s0 98 15 ∧ s 98 16 = (s0 98 15) ∧ s 98 17 = s0 98 17 ∧ s 98 18 = 0 ∧ s 98 13 = s0 98 13) _ (if_98_18 Is148 (by omega)) (Fs148.up rfl) ⟨es148.1, es148.2.1, es148.2.2.1, rfl, es148.2.2.2.2⟩ (fun s211 Is211 Fs211 (es211 : s211 98 15 = s0 98 15 ∧ s211 98 16 = (s0 98 15) ∧ s211 98 17 = s0 98 17 ∧ s211 98 18 = 0 ∧ s211 98 13 = s0 98 13) => ?_))
                      clear es148
                      refine h_aload_n (pc' := 205) rfl rfl rfl ?_
                      refine h_dup (pc' := 206) rfl rfl rfl ?_
                      refine h_getI (pc' := 209) (v := s0 98 15) rfl rfl rfl rfl rfl es211.1 (fun z212 hz212 => ?_)
                      have tz212 := tf_98_15 I0
                      refine h_iconst (pc' := 210) (x := (Int32.ofInt 1)) rfl rfl rfl ?_
                      refine h_iadd (pc' := 211) rfl rfl hz212 ci_1 rfl (by omega) (by omega) (fun z213 hz213 => ?_)
                      refine h_put (pc' := 214) rfl rfl rfl rfl rfl rfl hz213 rfl (h_fgt (E := fun s => s 98 15 = ((s0 98 15) + 1) ∧ s 98 16 = (s0 98 15) ∧ s 98 17 = s0 98 17 ∧ s 98 18 = 0 ∧ s 98 13 = s0 98 13) _ (if_98_15 Is211 (by omega)) (Fs211.up rfl) ⟨rfl, es211.2.1, es211.2.2.1, es211.2.2.2.1, es211.2.2.2.2⟩ (fun s214 Is214 Fs214 (es214 : s214 98 15 = ((s0 98 15) + 1) ∧ s214 98 16 = (s0 98 15) ∧ s214 98 17 = s0 98 17 ∧ s214 98 18 = 0 ∧ s214 98 13 = s0 98 13) => ?_))
                      clear es211
                      refine h_goto (pc' := 140) rfl rfl ?_
                      exact h_wk [(0, .ref 98), (1, .int z147)] ⟨rfl, rfl, trivial⟩ (ih.2.2 _ Is214 Fs214 z147 _ hz147 (by omega) (by omega) (by omega) (by omega) (by omega) (by omega) (by omega))
                    · refine h_bipush (pc' := 177) (x := (Int32.ofInt 10)) rfl rfl cb_10 ?_
                      refine h_aload_n (pc' := 178) rfl rfl rfl ?_
                      refine h_getI (pc' := 181) (v := 0) rfl rfl rfl rfl rfl es148.2.2.2.1 (fun z215 hz215 => ?_)
                      refine h_imul (pc' := 182) rfl rfl ci_10 hz215 rfl (by omega) (by omega) (fun z216 hz216 => ?_)
                      refine h_aload_n (pc' := 183) rfl rfl rfl ?_
                      refine h_aload_n (pc' := 184) rfl rfl rfl ?_
                      refine h_getI (pc' := 187) (v := s0 98 15) rfl rfl rfl rfl rfl es148.1 (fun z217 hz217 => ?_)
                      have tz217 := tf_98_15 I0
                      refine h_call (sp := false) (pc' := 190) (M := [(0, .ref 98), (1, .int z217)]) rfl rfl rfl rfl rfl rfl rfl rfl ?_
                      refine h_iload_n (pc' := 1) rfl rfl rfl ?_
                      refine h_aload_n (pc' := 2) rfl rfl rfl ?_
                      refine h_getI (pc' := 5) (v := σ 98 11) rfl rfl rfl rfl rfl (Fs148 98 11 rfl) (fun z218 hz218 => ?_)
                      have tz218 := tf_98_11 hI
                      refine h_cge (tg := 17) (pc' := 8) rfl rfl rfl hz217 hz218 (fun c219 => ?_) (fun c219 => ?_)
                      · refine h_bipush (pc' := 19) (x := (Int32.ofInt (-4))) rfl rfl cb_m4 ?_
                        refine h_iret rfl rfl (h_Kv ?_)
                        refine h_iadd (pc' := 191) rfl rfl hz216 ci_m4 rfl (by omega) (by omega) (fun z220 hz220 => ?_)
                        refine h_bipush (pc' := 193) (x := (Int32.ofInt 48)) rfl rfl cb_48 ?_
                        refine h_isub (pc' := 194) rfl rfl hz220 ci_48 rfl (by omega) (by omega) (fun z221 hz221 => ?_)
                        refine h_goto (pc' := 201) rfl rfl ?_
                        refine h_put (pc' := 204) rfl rfl rfl rfl rfl rfl hz221 rfl (h_fgt (E := fun s => s 98 15 = s0 98 15 ∧ s 98 16 = (s0 98 15) ∧ s 98 17 = s0 98 17 ∧ s 98 18 = (((10 * 0) + (-4)) - 48) ∧ s 98 13 = s0 98 13) _ (if_98_18 Is148 (by omega)) (Fs148.up rfl) ⟨es148.1, es148.2.1, es148.2.2.1, rfl, es148.2.2.2.2⟩ (fun s222 Is222 Fs222 (es222 : s222 98 15 = s0 98 15 ∧ s222 98 16 = (s0 98 15) ∧ s222 98 17 = s0 98 17 ∧ s222 98 18 = (((10 * 0) + (-4)) - 48) ∧ s222 98 13 = s0 98 13) => ?_))
                        clear es148
                        refine h_aload_n (pc' := 205) rfl rfl rfl ?_
                        refine h_dup (pc' := 206) rfl rfl rfl ?_
                        refine h_getI (pc' := 209) (v := s0 98 15) rfl rfl rfl rfl rfl es222.1 (fun z223 hz223 => ?_)
                        have tz223 := tf_98_15 I0
                        refine h_iconst (pc' := 210) (x := (Int32.ofInt 1)) rfl rfl rfl ?_
                        refine h_iadd (pc' := 211) rfl rfl hz223 ci_1 rfl (by omega) (by omega) (fun z224 hz224 => ?_)
                        refine h_put (pc' := 214) rfl rfl rfl rfl rfl rfl hz224 rfl (h_fgt (E := fun s => s 98 15 = ((s0 98 15) + 1) ∧ s 98 16 = (s0 98 15) ∧ s 98 17 = s0 98 17 ∧ s 98 18 = (((10 * 0) + (-4)) - 48) ∧ s 98 13 = s0 98 13) _ (if_98_15 Is222 (by omega)) (Fs222.up rfl) ⟨rfl, es222.2.1, es222.2.2.1, es222.2.2.2.1, es222.2.2.2.2⟩ (fun s225 Is225 Fs225 (es225 : s225 98 15 = ((s0 98 15) + 1) ∧ s225 98 16 = (s0 98 15) ∧ s225 98 17 = s0 98 17 ∧ s225 98 18 = (((10 * 0) + (-4)) - 48) ∧ s225 98 13 = s0 98 13) => ?_))
                        clear es222
                        refine h_goto (pc' := 140) rfl rfl ?_
                        exact h_wk [(0, .ref 98), (1, .int z147)] ⟨rfl, rfl, trivial⟩ (ih.2.2 _ Is225 Fs225 z147 _ hz147 (by omega) (by omega) (by omega) (by omega) (by omega) (by omega) (by omega))
                      · refine h_aload_n (pc' := 9) rfl rfl rfl ?_
                        refine h_getR (pc' := 12) rfl rfl rfl rfl rfl ?_
                        refine h_iload_n (pc' := 13) rfl rfl rfl ?_
                        refine h_iald (pc' := 14) (v := σ 102 (s0 98 15)) rfl rfl rfl hz217 (by omega) (by omega) (Fs148 102 _ rfl) (fun z226 hz226 => ?_)
                        have tz226 := ty_102 hI (s0 98 15)
                        refine h_goto (pc' := 19) rfl rfl ?_
                        refine h_iret rfl rfl (h_Kv ?_)
                        refine h_iadd (pc' := 191) rfl rfl hz216 hz226 rfl (by omega) (by omega) (fun z227 hz227 => ?_)
                        refine h_bipush (pc' := 193) (x := (Int32.ofInt 48)) rfl rfl cb_48 ?_
                        refine h_isub (pc' := 194) rfl rfl hz227 ci_48 rfl (by omega) (by omega) (fun z228 hz228 => ?_)
                        refine h_goto (pc' := 201) rfl rfl ?_
                        refine h_put (pc' := 204) rfl rfl rfl rfl rfl rfl hz228 rfl (h_fgt (E := fun s => s 98 15 = s0 98 15 ∧ s 98 16 = (s0 98 15) ∧ s 98 17 = s0 98 17 ∧ s 98 18 = (((10 * 0) + (σ 102 (s0 98 15))) - 48) ∧ s 98 13 = s0 98 13) _ (if_98_18 Is148 (by omega)) (Fs148.up rfl) ⟨es148.1, es148.2.1, es148.2.2.1, rfl, es148.2.2.2.2⟩ (fun s229 Is229 Fs229 (es229 : s229 98 15 = s0 98 15 ∧ s229 98 16 = (s0 98 15) ∧ s229 98 17 = s0 98 17 ∧ s229 98 18 = (((10 * 0) + (σ 102 (s0 98 15))) - 48) ∧ s229 98 13 = s0 98 13) => ?_))
                        clear es148
                        refine h_aload_n (pc' := 205) rfl rfl rfl ?_
                        refine h_dup (pc' := 206) rfl rfl rfl ?_
                        refine h_getI (pc' := 209) (v := s0 98 15) rfl rfl rfl rfl rfl es229.1 (fun z230 hz230 => ?_)
                        have tz230 := tf_98_15 I0
                        refine h_iconst (pc' := 210) (x := (Int32.ofInt 1)) rfl rfl rfl ?_
                        refine h_iadd (pc' := 211) rfl rfl hz230 ci_1 rfl (by omega) (by omega) (fun z231 hz231 => ?_)
                        refine h_put (pc' := 214) rfl rfl rfl rfl rfl rfl hz231 rfl (h_fgt (E := fun s => s 98 15 = ((s0 98 15) + 1) ∧ s 98 16 = (s0 98 15) ∧ s 98 17 = s0 98 17 ∧ s 98 18 = (((10 * 0) + (σ 102 (s0 98 15))) - 48) ∧ s 98 13 = s0 98 13) _ (if_98_15 Is229 (by omega)) (Fs229.up rfl) ⟨rfl, es229.2.1, es229.2.2.1, es229.2.2.2.1, es229.2.2.2.2⟩ (fun s232 Is232 Fs232 (es232 : s232 98 15 = ((s0 98 15) + 1) ∧ s232 98 16 = (s0 98 15) ∧ s232 98 17 = s0 98 17 ∧ s232 98 18 = (((10 * 0) + (σ 102 (s0 98 15))) - 48) ∧ s232 98 13 = s0 98 13) => ?_))
                        clear es229
                        refine h_goto (pc' := 140) rfl rfl ?_
                        exact h_wk [(0, .ref 98), (1, .int z147)] ⟨rfl, rfl, trivial⟩ (ih.2.2 _ Is232 Fs232 z147 _ hz147 (by omega) (by omega) (by omega) (by omega) (by omega) (by omega) (by omega))
            · replace c152 := (h_lcr hz151).2.1 c152
              clear hz151
              refine h_lload_n (pc' := 7) rfl rfl rfl ?_
              refine h_lload (pc' := 9) rfl rfl rfl ?_
              refine h_lcmp (pc' := 10) rfl rfl hz150 cl_122 (fun z233 hz233 => ?_)
              refine h_zgt (tg := 17) (pc' := 13) rfl rfl rfl rfl (fun c234 => ?_) (fun c234 => ?_)
              · replace c234 := (h_lcr hz233).2.2.2.1 c234
                clear hz233
                refine h_iconst (pc' := 18) (x := (Int32.ofInt 0)) rfl rfl rfl ?_
                refine h_zret rfl rfl ci_0 (by omega) (h_Kv ?_)
                refine h_zeq (tg := 126) (pc' := 84) rfl rfl rfl ci_0 (fun c235 => ?_) (fun c235 => absurd c235 (by omega))
                refine h_iload_n (pc' := 127) rfl rfl rfl ?_
                refine h_i2l (pc' := 128) rfl rfl hz147 (fun z236 hz236 => ?_)
                refine h_ldc2 (pc' := 131) (x := (Int64.ofInt 48)) rfl rfl rfl ?_
                refine h_ldc2 (pc' := 134) (x := (Int64.ofInt 57)) rfl rfl rfl ?_
                refine h_calls (pc' := 137) (M := [(0, .long z236), (2, .long (Int64.ofInt 48)), (4, .long (Int64.ofInt 57))]) rfl rfl rfl rfl rfl rfl ?_
                refine h_lload_n (pc' := 1) rfl rfl rfl ?_
                refine h_lload_n (pc' := 2) rfl rfl rfl ?_
                refine h_lcmp (pc' := 3) rfl rfl hz236 cl_48 (fun z237 hz237 => ?_)
                refine h_zlt (tg := 17) (pc' := 6) rfl rfl rfl rfl (fun c238 => absurd c238 (by omega)) (fun c238 => ?_)
                replace c238 := (h_lcr hz237).2.1 c238
                clear hz237
                refine h_lload_n (pc' := 7) rfl rfl rfl ?_
                refine h_lload (pc' := 9) rfl rfl rfl ?_
                refine h_lcmp (pc' := 10) rfl rfl hz236 cl_57 (fun z239 hz239 => ?_)
                refine h_zgt (tg := 17) (pc' := 13) rfl rfl rfl rfl (fun c240 => ?_) (fun c240 => absurd c240 (by omega))
                replace c240 := (h_lcr hz239).2.2.2.1 c240
                clear hz239
                refine h_iconst (pc' := 18) (x := (Int32.ofInt 0)) rfl rfl rfl ?_
                refine h_zret rfl rfl ci_0 (by omega) (h_Kv ?_)
                refine h_zeq (tg := 243) (pc' := 140) rfl rfl rfl ci_0 (fun c241 => ?_) (fun c241 => absurd c241 (by omega))
                refine h_aload_n (pc' := 244) rfl rfl rfl ?_
                refine h_iconst (pc' := 245) (x := (Int32.ofInt 3)) rfl rfl rfl ?_
                refine h_put (pc' := 248) rfl rfl rfl rfl rfl rfl ci_3 rfl (h_fgt (E := fun s => s 98 15 = s0 98 15 ∧ s 98 16 = (s0 98 15) ∧ s 98 17 = 3 ∧ s 98 18 = 0 ∧ s 98 13 = s0 98 13) _ (if_98_17 Is148 (by omega)) (Fs148.up rfl) ⟨es148.1, es148.2.1, rfl, es148.2.2.2.1, es148.2.2.2.2⟩ (fun s242 Is242 Fs242 (es242 : s242 98 15 = s0 98 15 ∧ s242 98 16 = (s0 98 15) ∧ s242 98 17 = 3 ∧ s242 98 18 = 0 ∧ s242 98 13 = s0 98 13) => ?_))
                clear es148
                refine h_aload_n (pc' := 249) rfl rfl rfl ?_
                refine h_dup (pc' := 250) rfl rfl rfl ?_
                refine h_getI (pc' := 253) (v := s0 98 15) rfl rfl rfl rfl rfl es242.1 (fun z243 hz243 => ?_)
                have tz243 := tf_98_15 I0
                refine h_iconst (pc' := 254) (x := (Int32.ofInt 1)) rfl rfl rfl ?_
                refine h_iadd (pc' := 255) rfl rfl hz243 ci_1 rfl (by omega) (by omega) (fun z244 hz244 => ?_)
                refine h_put (pc' := 258) rfl rfl rfl rfl rfl rfl hz244 rfl (h_fgt (E := fun s => s 98 15 = ((s0 98 15) + 1) ∧ s 98 16 = (s0 98 15) ∧ s 98 17 = 3 ∧ s 98 18 = 0 ∧ s 98 13 = s0 98 13) _ (if_98_15 Is242 (by omega)) (Fs242.up rfl) ⟨rfl, es242.2.1, es242.2.2.1, es242.2.2.2.1, es242.2.2.2.2⟩ (fun s245 Is245 Fs245 (es245 : s245 98 15 = ((s0 98 15) + 1) ∧ s245 98 16 = (s0 98 15) ∧ s245 98 17 = 3 ∧ s245 98 18 = 0 ∧ s245 98 13 = s0 98 13) => ?_))
                clear es242
                refine h_iload_n (pc' := 259) rfl rfl rfl ?_
                refine h_bipush (pc' := 261) (x := (Int32.ofInt 59)) rfl rfl cb_59 ?_
                refine h_ceq (tg := 269) (pc' := 264) rfl rfl rfl hz147 ci_59 (fun c246 => absurd c246 (by omega)) (fun c246 => ?_)
                refine h_aload_n (pc' := 265) rfl rfl rfl ?_
                refine h_iconst (pc' := 266) (x := (Int32.ofInt 1)) rfl rfl rfl ?_
                refine h_call (sp := false) (pc' := 269) (M := [(0, .ref 98), (1, .int (Int32.ofInt 1))]) rfl rfl rfl rfl rfl rfl rfl rfl ?_
                refine h_aload_n (pc' := 1) rfl rfl rfl ?_
                refine h_getI (pc' := 4) (v := s0 98 13) rfl rfl rfl rfl rfl es245.2.2.2.2 (fun z247 hz247 => ?_)
                have tz247 := tf_98_13 I0
                refine h_zne (tg := 20) (pc' := 7) rfl rfl rfl hz247 (fun c248 => absurd c248 (by omega)) (fun c248 => ?_)
                refine h_aload_n (pc' := 8) rfl rfl rfl ?_
                refine h_iload_n (pc' := 9) rfl rfl rfl ?_
                refine h_put (pc' := 12) rfl rfl rfl rfl rfl rfl ci_1 rfl (h_fgt (E := fun s => s 98 15 = ((s0 98 15) + 1) ∧ s 98 16 = (s0 98 15) ∧ s 98 17 = 3 ∧ s 98 18 = 0 ∧ s 98 13 = 1) _ (if_98_13 Is245 (by omega)) (Fs245.up rfl) ⟨es245.1, es245.2.1, es245.2.2.1, es245.2.2.2.1, rfl⟩ (fun s249 Is249 Fs249 (es249 : s249 98 15 = ((s0 98 15) + 1) ∧ s249 98 16 = (s0 98 15) ∧ s249 98 17 = 3 ∧ s249 98 18 = 0 ∧ s249 98 13 = 1) => ?_))
                clear es245
                refine h_aload_n (pc' := 13) rfl rfl rfl ?_
                refine h_aload_n (pc' := 14) rfl rfl rfl ?_
                refine h_getI (pc' := 17) (v := (s0 98 15)) rfl rfl rfl rfl rfl es249.2.1 (fun z250 hz250 => ?_)
                refine h_put (pc' := 20) rfl rfl rfl rfl rfl rfl hz250 rfl (h_fgt (E := fun s => s 98 15 = ((s0 98 15) + 1) ∧ s 98 16 = (s0 98 15) ∧ s 98 17 = 3 ∧ s 98 18 = 0 ∧ s 98 13 = 1) _ (if_98_14 Is249 (h_rgv hz250)) (Fs249.up rfl) ⟨es249.1, es249.2.1, es249.2.2.1, es249.2.2.2.1, es249.2.2.2.2⟩ (fun s251 Is251 Fs251 (es251 : s251 98 15 = ((s0 98 15) + 1) ∧ s251 98 16 = (s0 98 15) ∧ s251 98 17 = 3 ∧ s251 98 18 = 0 ∧ s251 98 13 = 1) => ?_))
                clear es249
                refine h_vret rfl rfl (h_Kn ?_)
                exact h_vret rfl rfl (kk _ Is251 Fs251 (Or.inr (Or.inl ⟨by omega, by omega, by omega, by omega⟩)))
              · replace c234 := (h_lcr hz233).2.2.1 c234
                clear hz233
                refine h_iconst (pc' := 14) (x := (Int32.ofInt 1)) rfl rfl rfl ?_
                refine h_goto (pc' := 18) rfl rfl ?_
                refine h_zret rfl rfl ci_1 (by omega) (h_Kv ?_)
                refine h_zeq (tg := 126) (pc' := 84) rfl rfl rfl ci_1 (fun c252 => absurd c252 (by omega)) (fun c252 => ?_)
                refine h_aload_n (pc' := 85) rfl rfl rfl ?_
                refine h_aload_n (pc' := 86) rfl rfl rfl ?_
                refine h_getI (pc' := 89) (v := s0 98 15) rfl rfl rfl rfl rfl es148.1 (fun z253 hz253 => ?_)
                have tz253 := tf_98_15 I0
                refine h_call (sp := false) (pc' := 92) (M := [(0, .ref 98), (1, .int z253)]) rfl rfl rfl rfl rfl rfl rfl rfl ?_
                refine h_iload_n (pc' := 1) rfl rfl rfl ?_
                refine h_aload_n (pc' := 2) rfl rfl rfl ?_
                refine h_getI (pc' := 5) (v := σ 98 11) rfl rfl rfl rfl rfl (Fs148 98 11 rfl) (fun z254 hz254 => ?_)
                have tz254 := tf_98_11 hI
                refine h_cge (tg := 17) (pc' := 8) rfl rfl rfl hz253 hz254 (fun c255 => ?_) (fun c255 => ?_)
                · refine h_bipush (pc' := 19) (x := (Int32.ofInt (-4))) rfl rfl cb_m4 ?_
                  refine h_iret rfl rfl (h_Kv ?_)
                  refine h_i2l (pc' := 93) rfl rfl ci_m4 (fun z256 hz256 => ?_)
                  refine h_ldc2 (pc' := 96) (x := (Int64.ofInt 97)) rfl rfl rfl ?_
                  refine h_ldc2 (pc' := 99) (x := (Int64.ofInt 122)) rfl rfl rfl ?_
                  refine h_calls (pc' := 102) (M := [(0, .long z256), (2, .long (Int64.ofInt 97)), (4, .long (Int64.ofInt 122))]) rfl rfl rfl rfl rfl rfl ?_
                  refine h_lload_n (pc' := 1) rfl rfl rfl ?_
                  refine h_lload_n (pc' := 2) rfl rfl rfl ?_
                  refine h_lcmp (pc' := 3) rfl rfl hz256 cl_97 (fun z257 hz257 => ?_)
                  refine h_zlt (tg := 17) (pc' := 6) rfl rfl rfl rfl (fun c258 => ?_) (fun c258 => absurd c258 (by omega))
                  replace c258 := (h_lcr hz257).1 c258
                  clear hz257
                  refine h_iconst (pc' := 18) (x := (Int32.ofInt 0)) rfl rfl rfl ?_
                  refine h_zret rfl rfl ci_0 (by omega) (h_Kv ?_)
                  refine h_zeq (tg := 118) (pc' := 105) rfl rfl rfl ci_0 (fun c259 => ?_) (fun c259 => absurd c259 (by omega))
                  refine h_aload_n (pc' := 119) rfl rfl rfl ?_
                  refine h_iconst (pc' := 120) (x := (Int32.ofInt 1)) rfl rfl rfl ?_
                  refine h_put (pc' := 123) rfl rfl rfl rfl rfl rfl ci_1 rfl (h_fgt (E := fun s => s 98 15 = s0 98 15 ∧ s 98 16 = (s0 98 15) ∧ s 98 17 = 1 ∧ s 98 18 = 0 ∧ s 98 13 = s0 98 13) _ (if_98_17 Is148 (by omega)) (Fs148.up rfl) ⟨es148.1, es148.2.1, rfl, es148.2.2.2.1, es148.2.2.2.2⟩ (fun s260 Is260 Fs260 (es260 : s260 98 15 = s0 98 15 ∧ s260 98 16 = (s0 98 15) ∧ s260 98 17 = 1 ∧ s260 98 18 = 0 ∧ s260 98 13 = s0 98 13) => ?_))
                  clear es148
                  refine h_goto (pc' := 269) rfl rfl ?_
                  exact h_vret rfl rfl (kk _ Is260 Fs260 (Or.inr (Or.inr (Or.inr ⟨by omega, by omega, by omega, by omega⟩))))
                · refine h_aload_n (pc' := 9) rfl rfl rfl ?_
                  refine h_getR (pc' := 12) rfl rfl rfl rfl rfl ?_
                  refine h_iload_n (pc' := 13) rfl rfl rfl ?_
                  refine h_iald (pc' := 14) (v := σ 102 (s0 98 15)) rfl rfl rfl hz253 (by omega) (by omega) (Fs148 102 _ rfl) (fun z261 hz261 => ?_)
                  have tz261 := ty_102 hI (s0 98 15)
                  refine h_goto (pc' := 19) rfl rfl ?_
                  refine h_iret rfl rfl (h_Kv ?_)
                  refine h_i2l (pc' := 93) rfl rfl hz261 (fun z262 hz262 => ?_)
                  refine h_ldc2 (pc' := 96) (x := (Int64.ofInt 97)) rfl rfl rfl ?_
                  refine h_ldc2 (pc' := 99) (x := (Int64.ofInt 122)) rfl rfl rfl ?_
                  refine h_calls (pc' := 102) (M := [(0, .long z262), (2, .long (Int64.ofInt 97)), (4, .long (Int64.ofInt 122))]) rfl rfl rfl rfl rfl rfl ?_
                  refine h_lload_n (pc' := 1) rfl rfl rfl ?_
                  refine h_lload_n (pc' := 2) rfl rfl rfl ?_
                  refine h_lcmp (pc' := 3) rfl rfl hz262 cl_97 (fun z263 hz263 => ?_)
                  refine h_zlt (tg := 17) (pc' := 6) rfl rfl rfl rfl (fun c264 => absurd c264 (by omega)) (fun c264 => ?_)
                  replace c264 := (h_lcr hz263).2.1 c264
                  clear hz263
                  refine h_lload_n (pc' := 7) rfl rfl rfl ?_
                  refine h_lload (pc' := 9) rfl rfl rfl ?_
                  refine h_lcmp (pc' := 10) rfl rfl hz262 cl_122 (fun z265 hz265 => ?_)
                  refine h_zgt (tg := 17) (pc' := 13) rfl rfl rfl rfl (fun c266 => absurd c266 (by omega)) (fun c266 => ?_)
                  replace c266 := (h_lcr hz265).2.2.1 c266
                  clear hz265
                  refine h_iconst (pc' := 14) (x := (Int32.ofInt 1)) rfl rfl rfl ?_
                  refine h_goto (pc' := 18) rfl rfl ?_
                  refine h_zret rfl rfl ci_1 (by omega) (h_Kv ?_)
                  refine h_zeq (tg := 118) (pc' := 105) rfl rfl rfl ci_1 (fun c267 => absurd c267 (by omega)) (fun c267 => ?_)
                  refine h_aload_n (pc' := 106) rfl rfl rfl ?_
                  refine h_dup (pc' := 107) rfl rfl rfl ?_
                  refine h_getI (pc' := 110) (v := s0 98 15) rfl rfl rfl rfl rfl es148.1 (fun z268 hz268 => ?_)
                  have tz268 := tf_98_15 I0
                  refine h_iconst (pc' := 111) (x := (Int32.ofInt 1)) rfl rfl rfl ?_
                  refine h_iadd (pc' := 112) rfl rfl hz268 ci_1 rfl (by omega) (by omega) (fun z269 hz269 => ?_)
                  refine h_put (pc' := 115) rfl rfl rfl rfl rfl rfl hz269 rfl (h_fgt (E := fun s => s 98 15 = ((s0 98 15) + 1) ∧ s 98 16 = (s0 98 15) ∧ s 98 17 = s0 98 17 ∧ s 98 18 = 0 ∧ s 98 13 = s0 98 13) _ (if_98_15 Is148 (by omega)) (Fs148.up rfl) ⟨rfl, es148.2.1, es148.2.2.1, es148.2.2.2.1, es148.2.2.2.2⟩ (fun s270 Is270 Fs270 (es270 : s270 98 15 = ((s0 98 15) + 1) ∧ s270 98 16 = (s0 98 15) ∧ s270 98 17 = s0 98 17 ∧ s270 98 18 = 0 ∧ s270 98 13 = s0 98 13) => ?_))
                  clear es148
                  refine h_goto (pc' := 84) rfl rfl ?_
                  exact h_wk [(0, .ref 98), (1, .int z147)] ⟨rfl, rfl, trivial⟩ (ih.2.1 _ Is270 Fs270 z147 _ hz147 (by omega) (by omega) (by omega) (by omega) (by omega) (by omega))
        · refine h_aload_n (pc' := 22) rfl rfl rfl ?_
          refine h_dup (pc' := 23) rfl rfl rfl ?_
          refine h_getI (pc' := 26) (v := s0 98 15) rfl rfl rfl rfl rfl rfl (fun z271 hz271 => ?_)
          have tz271 := tf_98_15 I0
          refine h_iconst (pc' := 27) (x := (Int32.ofInt 1)) rfl rfl rfl ?_
          refine h_iadd (pc' := 28) rfl rfl hz271 ci_1 rfl (by omega) (by omega) (fun z272 hz272 => ?_)
          refine h_put (pc' := 31) rfl rfl rfl rfl rfl rfl hz272 rfl (h_fgt (E := fun s => s 98 15 = ((s0 98 15) + 1) ∧ s 98 16 = s0 98 16 ∧ s 98 17 = s0 98 17 ∧ s 98 18 = s0 98 18 ∧ s 98 13 = s0 98 13) _ (if_98_15 I0 (by omega)) (F0_.up rfl) ⟨rfl, rfl, rfl, rfl, rfl⟩ (fun s273 Is273 Fs273 (es273 : s273 98 15 = ((s0 98 15) + 1) ∧ s273 98 16 = s0 98 16 ∧ s273 98 17 = s0 98 17 ∧ s273 98 18 = s0 98 18 ∧ s273 98 13 = s0 98 13) => ?_))
          refine h_goto (pc' := 8) rfl rfl ?_
          exact h_wk [(0, .ref 98)] ⟨rfl, trivial⟩ (ih.1 _ Is273 Fs273  (by omega) (by omega) (by omega) (by omega))
    · intro s0 I0 F0_ y1 b1 hy1 ry1 ex0 ex1 ex2 ex3 hm; have gh0 := tf_98_15 I0
      refine h_aload_n (pc' := 85) rfl rfl rfl ?_
      refine h_aload_n (pc' := 86) rfl rfl rfl ?_
      refine h_getI (pc' := 89) (v := s0 98 15) rfl rfl rfl rfl rfl rfl (fun z1 hz1 => ?_)
      have tz1 := tf_98_15 I0
      refine h_call (sp := false) (pc' := 92) (M := [(0, .ref 98), (1, .int z1)]) rfl rfl rfl rfl rfl rfl rfl rfl ?_
      refine h_iload_n (pc' := 1) rfl rfl rfl ?_
      refine h_aload_n (pc' := 2) rfl rfl rfl ?_
      refine h_getI (pc' := 5) (v := σ 98 11) rfl rfl rfl rfl rfl (F0_ 98 11 rfl) (fun z2 hz2 => ?_)
      have tz2 := tf_98_11 hI
      refine h_cge (tg := 17) (pc' := 8) rfl rfl rfl hz1 hz2 (fun c3 => ?_) (fun c3 => ?_)
      · refine h_bipush (pc' := 19) (x := (Int32.ofInt (-4))) rfl rfl cb_m4 ?_
        refine h_iret rfl rfl (h_Kv ?_)
        refine h_i2l (pc' := 93) rfl rfl ci_m4 (fun z4 hz4 => ?_)
        refine h_ldc2 (pc' := 96) (x := (Int64.ofInt 97)) rfl rfl rfl ?_
        refine h_ldc2 (pc' := 99) (x := (Int64.ofInt 122)) rfl rfl rfl ?_
        refine h_calls (pc' := 102) (M := [(0, .long z4), (2, .long (Int64.ofInt 97)), (4, .long (Int64.ofInt 122))]) rfl rfl rfl rfl rfl rfl ?_
        refine h_lload_n (pc' := 1) rfl rfl rfl ?_
        refine h_lload_n (pc' := 2) rfl rfl rfl ?_
        refine h_lcmp (pc' := 3) rfl rfl hz4 cl_97 (fun z5 hz5 => ?_)
        refine h_zlt (tg := 17) (pc' := 6) rfl rfl rfl rfl (fun c6 => ?_) (fun c6 => absurd c6 (by omega))
        replace c6 := (h_lcr hz5).1 c6
        clear hz5
        refine h_iconst (pc' := 18) (x := (Int32.ofInt 0)) rfl rfl rfl ?_
        refine h_zret rfl rfl ci_0 (by omega) (h_Kv ?_)
        refine h_zeq (tg := 118) (pc' := 105) rfl rfl rfl ci_0 (fun c7 => ?_) (fun c7 => absurd c7 (by omega))
        refine h_aload_n (pc' := 119) rfl rfl rfl ?_
        refine h_iconst (pc' := 120) (x := (Int32.ofInt 1)) rfl rfl rfl ?_
        refine h_put (pc' := 123) rfl rfl rfl rfl rfl rfl ci_1 rfl (h_fgt (E := fun s => s 98 15 = s0 98 15 ∧ s 98 16 = s0 98 16 ∧ s 98 17 = 1 ∧ s 98 18 = s0 98 18 ∧ s 98 13 = s0 98 13) _ (if_98_17 I0 (by omega)) (F0_.up rfl) ⟨rfl, rfl, rfl, rfl, rfl⟩ (fun s8 Is8 Fs8 (es8 : s8 98 15 = s0 98 15 ∧ s8 98 16 = s0 98 16 ∧ s8 98 17 = 1 ∧ s8 98 18 = s0 98 18 ∧ s8 98 13 = s0 98 13) => ?_))
        refine h_goto (pc' := 269) rfl rfl ?_
        exact h_vret rfl rfl (kk _ Is8 Fs8 (Or.inr (Or.inr (Or.inr ⟨by omega, by omega, by omega, by omega⟩))))
      · refine h_aload_n (pc' := 9) rfl rfl rfl ?_
        refine h_getR (pc' := 12) rfl rfl rfl rfl rfl ?_
        refine h_iload_n (pc' := 13) rfl rfl rfl ?_
        refine h_iald (pc' := 14) (v := σ 102 (s0 98 15)) rfl rfl rfl hz1 (by omega) (by omega) (F0_ 102 _ rfl) (fun z9 hz9 => ?_)
        have tz9 := ty_102 hI (s0 98 15)
        refine h_goto (pc' := 19) rfl rfl ?_
        refine h_iret rfl rfl (h_Kv ?_)
        refine h_i2l (pc' := 93) rfl rfl hz9 (fun z10 hz10 => ?_)
        refine h_ldc2 (pc' := 96) (x := (Int64.ofInt 97)) rfl rfl rfl ?_
        refine h_ldc2 (pc' := 99) (x := (Int64.ofInt 122)) rfl rfl rfl ?_
        refine h_calls (pc' := 102) (M := [(0, .long z10), (2, .long (Int64.ofInt 97)), (4, .long (Int64.ofInt 122))]) rfl rfl rfl rfl rfl rfl ?_
        refine h_lload_n (pc' := 1) rfl rfl rfl ?_
        refine h_lload_n (pc' := 2) rfl rfl rfl ?_
        refine h_lcmp (pc' := 3) rfl rfl hz10 cl_97 (fun z11 hz11 => ?_)
        refine h_zlt (tg := 17) (pc' := 6) rfl rfl rfl rfl (fun c12 => ?_) (fun c12 => ?_)
        · replace c12 := (h_lcr hz11).1 c12
          clear hz11
          refine h_iconst (pc' := 18) (x := (Int32.ofInt 0)) rfl rfl rfl ?_
          refine h_zret rfl rfl ci_0 (by omega) (h_Kv ?_)
          refine h_zeq (tg := 118) (pc' := 105) rfl rfl rfl ci_0 (fun c13 => ?_) (fun c13 => absurd c13 (by omega))
          refine h_aload_n (pc' := 119) rfl rfl rfl ?_
          refine h_iconst (pc' := 120) (x := (Int32.ofInt 1)) rfl rfl rfl ?_
          refine h_put (pc' := 123) rfl rfl rfl rfl rfl rfl ci_1 rfl (h_fgt (E := fun s => s 98 15 = s0 98 15 ∧ s 98 16 = s0 98 16 ∧ s 98 17 = 1 ∧ s 98 18 = s0 98 18 ∧ s 98 13 = s0 98 13) _ (if_98_17 I0 (by omega)) (F0_.up rfl) ⟨rfl, rfl, rfl, rfl, rfl⟩ (fun s14 Is14 Fs14 (es14 : s14 98 15 = s0 98 15 ∧ s14 98 16 = s0 98 16 ∧ s14 98 17 = 1 ∧ s14 98 18 = s0 98 18 ∧ s14 98 13 = s0 98 13) => ?_))
          refine h_goto (pc' := 269) rfl rfl ?_
          exact h_vret rfl rfl (kk _ Is14 Fs14 (Or.inr (Or.inr (Or.inr ⟨by omega, by omega, by omega, by omega⟩))))
        · replace c12 := (h_lcr hz11).2.1 c12
          clear hz11
          refine h_lload_n (pc' := 7) rfl rfl rfl ?_
          refine h_lload (pc' := 9) rfl rfl rfl ?_
          refine h_lcmp (pc' := 10) rfl rfl hz10 cl_122 (fun z15 hz15 => ?_)
          refine h_zgt (tg := 17) (pc' := 13) rfl rfl rfl rfl (fun c16 => ?_) (fun c16 => ?_)
          · replace c16 := (h_lcr hz15).2.2.2.1 c16
            clear hz15
            refine h_iconst (pc' := 18) (x := (Int32.ofInt 0)) rfl rfl rfl ?_
            refine h_zret rfl rfl ci_0 (by omega) (h_Kv ?_)
            refine h_zeq (tg := 118) (pc' := 105) rfl rfl rfl ci_0 (fun c17 => ?_) (fun c17 => absurd c17 (by omega))
            refine h_aload_n (pc' := 119) rfl rfl rfl ?_
            refine h_iconst (pc' := 120) (x := (Int32.ofInt 1)) rfl rfl rfl ?_
            refine h_put (pc' := 123) rfl rfl rfl rfl rfl rfl ci_1 rfl (h_fgt (E := fun s => s 98 15 = s0 98 15 ∧ s 98 16 = s0 98 16 ∧ s 98 17 = 1 ∧ s 98 18 = s0 98 18 ∧ s 98 13 = s0 98 13) _ (if_98_17 I0 (by omega)) (F0_.up rfl) ⟨rfl, rfl, rfl, rfl, rfl⟩ (fun s18 Is18 Fs18 (es18 : s18 98 15 = s0 98 15 ∧ s18 98 16 = s0 98 16 ∧ s18 98 17 = 1 ∧ s18 98 18 = s0 98 18 ∧ s18 98 13 = s0 98 13) => ?_))
            refine h_goto (pc' := 269) rfl rfl ?_
            exact h_vret rfl rfl (kk _ Is18 Fs18 (Or.inr (Or.inr (Or.inr ⟨by omega, by omega, by omega, by omega⟩))))
          · replace c16 := (h_lcr hz15).2.2.1 c16
            clear hz15
            refine h_iconst (pc' := 14) (x := (Int32.ofInt 1)) rfl rfl rfl ?_
            refine h_goto (pc' := 18) rfl rfl ?_
            refine h_zret rfl rfl ci_1 (by omega) (h_Kv ?_)
            refine h_zeq (tg := 118) (pc' := 105) rfl rfl rfl ci_1 (fun c19 => absurd c19 (by omega)) (fun c19 => ?_)
            refine h_aload_n (pc' := 106) rfl rfl rfl ?_
            refine h_dup (pc' := 107) rfl rfl rfl ?_
            refine h_getI (pc' := 110) (v := s0 98 15) rfl rfl rfl rfl rfl rfl (fun z20 hz20 => ?_)
            have tz20 := tf_98_15 I0
            refine h_iconst (pc' := 111) (x := (Int32.ofInt 1)) rfl rfl rfl ?_
            refine h_iadd (pc' := 112) rfl rfl hz20 ci_1 rfl (by omega) (by omega) (fun z21 hz21 => ?_)
            refine h_put (pc' := 115) rfl rfl rfl rfl rfl rfl hz21 rfl (h_fgt (E := fun s => s 98 15 = ((s0 98 15) + 1) ∧ s 98 16 = s0 98 16 ∧ s 98 17 = s0 98 17 ∧ s 98 18 = s0 98 18 ∧ s 98 13 = s0 98 13) _ (if_98_15 I0 (by omega)) (F0_.up rfl) ⟨rfl, rfl, rfl, rfl, rfl⟩ (fun s22 Is22 Fs22 (es22 : s22 98 15 = ((s0 98 15) + 1) ∧ s22 98 16 = s0 98 16 ∧ s22 98 17 = s0 98 17 ∧ s22 98 18 = s0 98 18 ∧ s22 98 13 = s0 98 13) => ?_))
            refine h_goto (pc' := 84) rfl rfl ?_
            exact h_wk [(0, .ref 98), (1, .int y1)] ⟨rfl, rfl, trivial⟩ (ih.2.1 _ Is22 Fs22 y1 _ hy1 (by omega) (by omega) (by omega) (by omega) (by omega) (by omega))
    · intro s0 I0 F0_ y1 b1 hy1 ry1 ex0 ex1 ex2 ex3 ex4 hm; have gh0 := tf_98_15 I0
      refine h_aload_n (pc' := 141) rfl rfl rfl ?_
      refine h_aload_n (pc' := 142) rfl rfl rfl ?_
      refine h_getI (pc' := 145) (v := s0 98 15) rfl rfl rfl rfl rfl rfl (fun z1 hz1 => ?_)
      have tz1 := tf_98_15 I0
      refine h_call (sp := false) (pc' := 148) (M := [(0, .ref 98), (1, .int z1)]) rfl rfl rfl rfl rfl rfl rfl rfl ?_
      refine h_iload_n (pc' := 1) rfl rfl rfl ?_
      refine h_aload_n (pc' := 2) rfl rfl rfl ?_
      refine h_getI (pc' := 5) (v := σ 98 11) rfl rfl rfl rfl rfl (F0_ 98 11 rfl) (fun z2 hz2 => ?_)
      have tz2 := tf_98_11 hI
      refine h_cge (tg := 17) (pc' := 8) rfl rfl rfl hz1 hz2 (fun c3 => ?_) (fun c3 => ?_)
      · refine h_bipush (pc' := 19) (x := (Int32.ofInt (-4))) rfl rfl cb_m4 ?_
        refine h_iret rfl rfl (h_Kv ?_)
        refine h_i2l (pc' := 149) rfl rfl ci_m4 (fun z4 hz4 => ?_)
        refine h_ldc2 (pc' := 152) (x := (Int64.ofInt 48)) rfl rfl rfl ?_
        refine h_ldc2 (pc' := 155) (x := (Int64.ofInt 57)) rfl rfl rfl ?_
        refine h_calls (pc' := 158) (M := [(0, .long z4), (2, .long (Int64.ofInt 48)), (4, .long (Int64.ofInt 57))]) rfl rfl rfl rfl rfl rfl ?_
        refine h_lload_n (pc' := 1) rfl rfl rfl ?_
        refine h_lload_n (pc' := 2) rfl rfl rfl ?_
        refine h_lcmp (pc' := 3) rfl rfl hz4 cl_48 (fun z5 hz5 => ?_)
        refine h_zlt (tg := 17) (pc' := 6) rfl rfl rfl rfl (fun c6 => ?_) (fun c6 => absurd c6 (by omega))
        replace c6 := (h_lcr hz5).1 c6
        clear hz5
        refine h_iconst (pc' := 18) (x := (Int32.ofInt 0)) rfl rfl rfl ?_
        refine h_zret rfl rfl ci_0 (by omega) (h_Kv ?_)
        refine h_zeq (tg := 217) (pc' := 161) rfl rfl rfl ci_0 (fun c7 => ?_) (fun c7 => absurd c7 (by omega))
        refine h_aload_n (pc' := 218) rfl rfl rfl ?_
        refine h_iconst (pc' := 219) (x := (Int32.ofInt 2)) rfl rfl rfl ?_
        refine h_put (pc' := 222) rfl rfl rfl rfl rfl rfl ci_2 rfl (h_fgt (E := fun s => s 98 15 = s0 98 15 ∧ s 98 16 = s0 98 16 ∧ s 98 17 = 2 ∧ s 98 18 = s0 98 18 ∧ s 98 13 = s0 98 13) _ (if_98_17 I0 (by omega)) (F0_.up rfl) ⟨rfl, rfl, rfl, rfl, rfl⟩ (fun s8 Is8 Fs8 (es8 : s8 98 15 = s0 98 15 ∧ s8 98 16 = s0 98 16 ∧ s8 98 17 = 2 ∧ s8 98 18 = s0 98 18 ∧ s8 98 13 = s0 98 13) => ?_))
        refine h_aload_n (pc' := 223) rfl rfl rfl ?_
        refine h_getI (pc' := 226) (v := s0 98 15) rfl rfl rfl rfl rfl es8.1 (fun z9 hz9 => ?_)
        have tz9 := tf_98_15 I0
        refine h_aload_n (pc' := 227) rfl rfl rfl ?_
        refine h_getI (pc' := 230) (v := s0 98 16) rfl rfl rfl rfl rfl es8.2.1 (fun z10 hz10 => ?_)
        have tz10 := tf_98_16 I0
        refine h_isub (pc' := 231) rfl rfl hz9 hz10 rfl (by omega) (by omega) (fun z11 hz11 => ?_)
        refine h_iconst (pc' := 232) (x := (Int32.ofInt 2)) rfl rfl rfl ?_
        refine h_cle (tg := 269) (pc' := 235) rfl rfl rfl hz11 ci_2 (fun c12 => ?_) (fun c12 => ?_)
        · exact h_vret rfl rfl (kk _ Is8 Fs8 (Or.inr (Or.inr (Or.inr ⟨by omega, by omega, by omega, by omega⟩))))
        · refine h_aload_n (pc' := 236) rfl rfl rfl ?_
          refine h_iconst (pc' := 237) (x := (Int32.ofInt 1)) rfl rfl rfl ?_
          refine h_call (sp := false) (pc' := 240) (M := [(0, .ref 98), (1, .int (Int32.ofInt 1))]) rfl rfl rfl rfl rfl rfl rfl rfl ?_
          refine h_aload_n (pc' := 1) rfl rfl rfl ?_
          refine h_getI (pc' := 4) (v := s0 98 13) rfl rfl rfl rfl rfl es8.2.2.2.2 (fun z13 hz13 => ?_)
          have tz13 := tf_98_13 I0
          refine h_zne (tg := 20) (pc' := 7) rfl rfl rfl hz13 (fun c14 => absurd c14 (by omega)) (fun c14 => ?_)
          refine h_aload_n (pc' := 8) rfl rfl rfl ?_
          refine h_iload_n (pc' := 9) rfl rfl rfl ?_
          refine h_put (pc' := 12) rfl rfl rfl rfl rfl rfl ci_1 rfl (h_fgt (E := fun s => s 98 15 = s0 98 15 ∧ s 98 16 = s0 98 16 ∧ s 98 17 = 2 ∧ s 98 18 = s0 98 18 ∧ s 98 13 = 1) _ (if_98_13 Is8 (by omega)) (Fs8.up rfl) ⟨es8.1, es8.2.1, es8.2.2.1, es8.2.2.2.1, rfl⟩ (fun s15 Is15 Fs15 (es15 : s15 98 15 = s0 98 15 ∧ s15 98 16 = s0 98 16 ∧ s15 98 17 = 2 ∧ s15 98 18 = s0 98 18 ∧ s15 98 13 = 1) => ?_))
          clear es8
          refine h_aload_n (pc' := 13) rfl rfl rfl ?_
          refine h_aload_n (pc' := 14) rfl rfl rfl ?_
          refine h_getI (pc' := 17) (v := s0 98 16) rfl rfl rfl rfl rfl es15.2.1 (fun z16 hz16 => ?_)
          have tz16 := tf_98_16 I0
          refine h_put (pc' := 20) rfl rfl rfl rfl rfl rfl hz16 rfl (h_fgt (E := fun s => s 98 15 = s0 98 15 ∧ s 98 16 = s0 98 16 ∧ s 98 17 = 2 ∧ s 98 18 = s0 98 18 ∧ s 98 13 = 1) _ (if_98_14 Is15 (h_rgv hz16)) (Fs15.up rfl) ⟨es15.1, es15.2.1, es15.2.2.1, es15.2.2.2.1, es15.2.2.2.2⟩ (fun s17 Is17 Fs17 (es17 : s17 98 15 = s0 98 15 ∧ s17 98 16 = s0 98 16 ∧ s17 98 17 = 2 ∧ s17 98 18 = s0 98 18 ∧ s17 98 13 = 1) => ?_))
          clear es15
          refine h_vret rfl rfl (h_Kn ?_)
          refine h_goto (pc' := 269) rfl rfl ?_
          exact h_vret rfl rfl (kk _ Is17 Fs17 (Or.inr (Or.inl ⟨by omega, by omega, by omega, by omega⟩)))
      · refine h_aload_n (pc' := 9) rfl rfl rfl ?_
        refine h_getR (pc' := 12) rfl rfl rfl rfl rfl ?_
        refine h_iload_n (pc' := 13) rfl rfl rfl ?_
        refine h_iald (pc' := 14) (v := σ 102 (s0 98 15)) rfl rfl rfl hz1 (by omega) (by omega) (F0_ 102 _ rfl) (fun z18 hz18 => ?_)
        have tz18 := ty_102 hI (s0 98 15)
        refine h_goto (pc' := 19) rfl rfl ?_
        refine h_iret rfl rfl (h_Kv ?_)
        refine h_i2l (pc' := 149) rfl rfl hz18 (fun z19 hz19 => ?_)
        refine h_ldc2 (pc' := 152) (x := (Int64.ofInt 48)) rfl rfl rfl ?_
        refine h_ldc2 (pc' := 155) (x := (Int64.ofInt 57)) rfl rfl rfl ?_
        refine h_calls (pc' := 158) (M := [(0, .long z19), (2, .long (Int64.ofInt 48)), (4, .long (Int64.ofInt 57))]) rfl rfl rfl rfl rfl rfl ?_
        refine h_lload_n (pc' := 1) rfl rfl rfl ?_
        refine h_lload_n (pc' := 2) rfl rfl rfl ?_
        refine h_lcmp (pc' := 3) rfl rfl hz19 cl_48 (fun z20 hz20 => ?_)
        refine h_zlt (tg := 17) (pc' := 6) rfl rfl rfl rfl (fun c21 => ?_) (fun c21 => ?_)
        · replace c21 := (h_lcr hz20).1 c21
          clear hz20
          refine h_iconst (pc' := 18) (x := (Int32.ofInt 0)) rfl rfl rfl ?_
          refine h_zret rfl rfl ci_0 (by omega) (h_Kv ?_)
          refine h_zeq (tg := 217) (pc' := 161) rfl rfl rfl ci_0 (fun c22 => ?_) (fun c22 => absurd c22 (by omega))
          refine h_aload_n (pc' := 218) rfl rfl rfl ?_
          refine h_iconst (pc' := 219) (x := (Int32.ofInt 2)) rfl rfl rfl ?_
          refine h_put (pc' := 222) rfl rfl rfl rfl rfl rfl ci_2 rfl (h_fgt (E := fun s => s 98 15 = s0 98 15 ∧ s 98 16 = s0 98 16 ∧ s 98 17 = 2 ∧ s 98 18 = s0 98 18 ∧ s 98 13 = s0 98 13) _ (if_98_17 I0 (by omega)) (F0_.up rfl) ⟨rfl, rfl, rfl, rfl, rfl⟩ (fun s23 Is23 Fs23 (es23 : s23 98 15 = s0 98 15 ∧ s23 98 16 = s0 98 16 ∧ s23 98 17 = 2 ∧ s23 98 18 = s0 98 18 ∧ s23 98 13 = s0 98 13) => ?_))
          refine h_aload_n (pc' := 223) rfl rfl rfl ?_
          refine h_getI (pc' := 226) (v := s0 98 15) rfl rfl rfl rfl rfl es23.1 (fun z24 hz24 => ?_)
          have tz24 := tf_98_15 I0
          refine h_aload_n (pc' := 227) rfl rfl rfl ?_
          refine h_getI (pc' := 230) (v := s0 98 16) rfl rfl rfl rfl rfl es23.2.1 (fun z25 hz25 => ?_)
          have tz25 := tf_98_16 I0
          refine h_isub (pc' := 231) rfl rfl hz24 hz25 rfl (by omega) (by omega) (fun z26 hz26 => ?_)
          refine h_iconst (pc' := 232) (x := (Int32.ofInt 2)) rfl rfl rfl ?_
          refine h_cle (tg := 269) (pc' := 235) rfl rfl rfl hz26 ci_2 (fun c27 => ?_) (fun c27 => ?_)
          · exact h_vret rfl rfl (kk _ Is23 Fs23 (Or.inr (Or.inr (Or.inr ⟨by omega, by omega, by omega, by omega⟩))))
          · refine h_aload_n (pc' := 236) rfl rfl rfl ?_
            refine h_iconst (pc' := 237) (x := (Int32.ofInt 1)) rfl rfl rfl ?_
            refine h_call (sp := false) (pc' := 240) (M := [(0, .ref 98), (1, .int (Int32.ofInt 1))]) rfl rfl rfl rfl rfl rfl rfl rfl ?_
            refine h_aload_n (pc' := 1) rfl rfl rfl ?_
            refine h_getI (pc' := 4) (v := s0 98 13) rfl rfl rfl rfl rfl es23.2.2.2.2 (fun z28 hz28 => ?_)
            have tz28 := tf_98_13 I0
            refine h_zne (tg := 20) (pc' := 7) rfl rfl rfl hz28 (fun c29 => absurd c29 (by omega)) (fun c29 => ?_)
            refine h_aload_n (pc' := 8) rfl rfl rfl ?_
            refine h_iload_n (pc' := 9) rfl rfl rfl ?_
            refine h_put (pc' := 12) rfl rfl rfl rfl rfl rfl ci_1 rfl (h_fgt (E := fun s => s 98 15 = s0 98 15 ∧ s 98 16 = s0 98 16 ∧ s 98 17 = 2 ∧ s 98 18 = s0 98 18 ∧ s 98 13 = 1) _ (if_98_13 Is23 (by omega)) (Fs23.up rfl) ⟨es23.1, es23.2.1, es23.2.2.1, es23.2.2.2.1, rfl⟩ (fun s30 Is30 Fs30 (es30 : s30 98 15 = s0 98 15 ∧ s30 98 16 = s0 98 16 ∧ s30 98 17 = 2 ∧ s30 98 18 = s0 98 18 ∧ s30 98 13 = 1) => ?_))
            clear es23
            refine h_aload_n (pc' := 13) rfl rfl rfl ?_
            refine h_aload_n (pc' := 14) rfl rfl rfl ?_
            refine h_getI (pc' := 17) (v := s0 98 16) rfl rfl rfl rfl rfl es30.2.1 (fun z31 hz31 => ?_)
            have tz31 := tf_98_16 I0
            refine h_put (pc' := 20) rfl rfl rfl rfl rfl rfl hz31 rfl (h_fgt (E := fun s => s 98 15 = s0 98 15 ∧ s 98 16 = s0 98 16 ∧ s 98 17 = 2 ∧ s 98 18 = s0 98 18 ∧ s 98 13 = 1) _ (if_98_14 Is30 (h_rgv hz31)) (Fs30.up rfl) ⟨es30.1, es30.2.1, es30.2.2.1, es30.2.2.2.1, es30.2.2.2.2⟩ (fun s32 Is32 Fs32 (es32 : s32 98 15 = s0 98 15 ∧ s32 98 16 = s0 98 16 ∧ s32 98 17 = 2 ∧ s32 98 18 = s0 98 18 ∧ s32 98 13 = 1) => ?_))
            clear es30
            refine h_vret rfl rfl (h_Kn ?_)
            refine h_goto (pc' := 269) rfl rfl ?_
            exact h_vret rfl rfl (kk _ Is32 Fs32 (Or.inr (Or.inl ⟨by omega, by omega, by omega, by omega⟩)))
        · replace c21 := (h_lcr hz20).2.1 c21
          clear hz20
          refine h_lload_n (pc' := 7) rfl rfl rfl ?_
          refine h_lload (pc' := 9) rfl rfl rfl ?_
          refine h_lcmp (pc' := 10) rfl rfl hz19 cl_57 (fun z33 hz33 => ?_)
          refine h_zgt (tg := 17) (pc' := 13) rfl rfl rfl rfl (fun c34 => ?_) (fun c34 => ?_)
          · replace c34 := (h_lcr hz33).2.2.2.1 c34
            clear hz33
            refine h_iconst (pc' := 18) (x := (Int32.ofInt 0)) rfl rfl rfl ?_
            refine h_zret rfl rfl ci_0 (by omega) (h_Kv ?_)
            refine h_zeq (tg := 217) (pc' := 161) rfl rfl rfl ci_0 (fun c35 => ?_) (fun c35 => absurd c35 (by omega))
            refine h_aload_n (pc' := 218) rfl rfl rfl ?_
            refine h_iconst (pc' := 219) (x := (Int32.ofInt 2)) rfl rfl rfl ?_
            refine h_put (pc' := 222) rfl rfl rfl rfl rfl rfl ci_2 rfl (h_fgt (E := fun s => s 98 15 = s0 98 15 ∧ s 98 16 = s0 98 16 ∧ s 98 17 = 2 ∧ s 98 18 = s0 98 18 ∧ s 98 13 = s0 98 13) _ (if_98_17 I0 (by omega)) (F0_.up rfl) ⟨rfl, rfl, rfl, rfl, rfl⟩ (fun s36 Is36 Fs36 (es36 : s36 98 15 = s0 98 15 ∧ s36 98 16 = s0 98 16 ∧ s36 98 17 = 2 ∧ s36 98 18 = s0 98 18 ∧ s36 98 13 = s0 98 13) => ?_))
            refine h_aload_n (pc' := 223) rfl rfl rfl ?_
            refine h_getI (pc' := 226) (v := s0 98 15) rfl rfl rfl rfl rfl es36.1 (fun z37 hz37 => ?_)
            have tz37 := tf_98_15 I0
            refine h_aload_n (pc' := 227) rfl rfl rfl ?_
            refine h_getI (pc' := 230) (v := s0 98 16) rfl rfl rfl rfl rfl es36.2.1 (fun z38 hz38 => ?_)
            have tz38 := tf_98_16 I0
            refine h_isub (pc' := 231) rfl rfl hz37 hz38 rfl (by omega) (by omega) (fun z39 hz39 => ?_)
            refine h_iconst (pc' := 232) (x := (Int32.ofInt 2)) rfl rfl rfl ?_
            refine h_cle (tg := 269) (pc' := 235) rfl rfl rfl hz39 ci_2 (fun c40 => ?_) (fun c40 => ?_)
            · exact h_vret rfl rfl (kk _ Is36 Fs36 (Or.inr (Or.inr (Or.inr ⟨by omega, by omega, by omega, by omega⟩))))
            · refine h_aload_n (pc' := 236) rfl rfl rfl ?_
              refine h_iconst (pc' := 237) (x := (Int32.ofInt 1)) rfl rfl rfl ?_
              refine h_call (sp := false) (pc' := 240) (M := [(0, .ref 98), (1, .int (Int32.ofInt 1))]) rfl rfl rfl rfl rfl rfl rfl rfl ?_
              refine h_aload_n (pc' := 1) rfl rfl rfl ?_
              refine h_getI (pc' := 4) (v := s0 98 13) rfl rfl rfl rfl rfl es36.2.2.2.2 (fun z41 hz41 => ?_)
              have tz41 := tf_98_13 I0
              refine h_zne (tg := 20) (pc' := 7) rfl rfl rfl hz41 (fun c42 => absurd c42 (by omega)) (fun c42 => ?_)
              refine h_aload_n (pc' := 8) rfl rfl rfl ?_
              refine h_iload_n (pc' := 9) rfl rfl rfl ?_
              refine h_put (pc' := 12) rfl rfl rfl rfl rfl rfl ci_1 rfl (h_fgt (E := fun s => s 98 15 = s0 98 15 ∧ s 98 16 = s0 98 16 ∧ s 98 17 = 2 ∧ s 98 18 = s0 98 18 ∧ s 98 13 = 1) _ (if_98_13 Is36 (by omega)) (Fs36.up rfl) ⟨es36.1, es36.2.1, es36.2.2.1, es36.2.2.2.1, rfl⟩ (fun s43 Is43 Fs43 (es43 : s43 98 15 = s0 98 15 ∧ s43 98 16 = s0 98 16 ∧ s43 98 17 = 2 ∧ s43 98 18 = s0 98 18 ∧ s43 98 13 = 1) => ?_))
              clear es36
              refine h_aload_n (pc' := 13) rfl rfl rfl ?_
              refine h_aload_n (pc' := 14) rfl rfl rfl ?_
              refine h_getI (pc' := 17) (v := s0 98 16) rfl rfl rfl rfl rfl es43.2.1 (fun z44 hz44 => ?_)
              have tz44 := tf_98_16 I0
              refine h_put (pc' := 20) rfl rfl rfl rfl rfl rfl hz44 rfl (h_fgt (E := fun s => s 98 15 = s0 98 15 ∧ s 98 16 = s0 98 16 ∧ s 98 17 = 2 ∧ s 98 18 = s0 98 18 ∧ s 98 13 = 1) _ (if_98_14 Is43 (h_rgv hz44)) (Fs43.up rfl) ⟨es43.1, es43.2.1, es43.2.2.1, es43.2.2.2.1, es43.2.2.2.2⟩ (fun s45 Is45 Fs45 (es45 : s45 98 15 = s0 98 15 ∧ s45 98 16 = s0 98 16 ∧ s45 98 17 = 2 ∧ s45 98 18 = s0 98 18 ∧ s45 98 13 = 1) => ?_))
              clear es43
              refine h_vret rfl rfl (h_Kn ?_)
              refine h_goto (pc' := 269) rfl rfl ?_
              exact h_vret rfl rfl (kk _ Is45 Fs45 (Or.inr (Or.inl ⟨by omega, by omega, by omega, by omega⟩)))
          · replace c34 := (h_lcr hz33).2.2.1 c34
            clear hz33
            refine h_iconst (pc' := 14) (x := (Int32.ofInt 1)) rfl rfl rfl ?_
            refine h_goto (pc' := 18) rfl rfl ?_
            refine h_zret rfl rfl ci_1 (by omega) (h_Kv ?_)
            refine h_zeq (tg := 217) (pc' := 161) rfl rfl rfl ci_1 (fun c46 => absurd c46 (by omega)) (fun c46 => ?_)
            refine h_aload_n (pc' := 162) rfl rfl rfl ?_
            refine h_aload_n (pc' := 163) rfl rfl rfl ?_
            refine h_getI (pc' := 166) (v := s0 98 15) rfl rfl rfl rfl rfl rfl (fun z47 hz47 => ?_)
            have tz47 := tf_98_15 I0
            refine h_aload_n (pc' := 167) rfl rfl rfl ?_
            refine h_getI (pc' := 170) (v := s0 98 16) rfl rfl rfl rfl rfl rfl (fun z48 hz48 => ?_)
            have tz48 := tf_98_16 I0
            refine h_isub (pc' := 171) rfl rfl hz47 hz48 rfl (by omega) (by omega) (fun z49 hz49 => ?_)
            refine h_iconst (pc' := 172) (x := (Int32.ofInt 2)) rfl rfl rfl ?_
            refine h_cge (tg := 197) (pc' := 175) rfl rfl rfl hz49 ci_2 (fun c50 => ?_) (fun c50 => ?_)
            · refine h_aload_n (pc' := 198) rfl rfl rfl ?_
              refine h_getI (pc' := 201) (v := s0 98 18) rfl rfl rfl rfl rfl rfl (fun z51 hz51 => ?_)
              have tz51 := tf_98_18 I0
              refine h_put (pc' := 204) rfl rfl rfl rfl rfl rfl hz51 rfl (h_fgt (E := fun s => s 98 15 = s0 98 15 ∧ s 98 16 = s0 98 16 ∧ s 98 17 = s0 98 17 ∧ s 98 18 = (s0 98 18) ∧ s 98 13 = s0 98 13) _ (if_98_18 I0 (by omega)) (F0_.up rfl) ⟨rfl, rfl, rfl, rfl, rfl⟩ (fun s52 Is52 Fs52 (es52 : s52 98 15 = s0 98 15 ∧ s52 98 16 = s0 98 16 ∧ s52 98 17 = s0 98 17 ∧ s52 98 18 = (s0 98 18) ∧ s52 98 13 = s0 98 13) => ?_))
              refine h_aload_n (pc' := 205) rfl rfl rfl ?_
              refine h_dup (pc' := 206) rfl rfl rfl ?_
              refine h_getI (pc' := 209) (v := s0 98 15) rfl rfl rfl rfl rfl es52.1 (fun z53 hz53 => ?_)
              have tz53 := tf_98_15 I0
              refine h_iconst (pc' := 210) (x := (Int32.ofInt 1)) rfl rfl rfl ?_
              refine h_iadd (pc' := 211) rfl rfl hz53 ci_1 rfl (by omega) (by omega) (fun z54 hz54 => ?_)
              refine h_put (pc' := 214) rfl rfl rfl rfl rfl rfl hz54 rfl (h_fgt (E := fun s => s 98 15 = ((s0 98 15) + 1) ∧ s 98 16 = s0 98 16 ∧ s 98 17 = s0 98 17 ∧ s 98 18 = (s0 98 18) ∧ s 98 13 = s0 98 13) _ (if_98_15 Is52 (by omega)) (Fs52.up rfl) ⟨rfl, es52.2.1, es52.2.2.1, es52.2.2.2.1, es52.2.2.2.2⟩ (fun s55 Is55 Fs55 (es55 : s55 98 15 = ((s0 98 15) + 1) ∧ s55 98 16 = s0 98 16 ∧ s55 98 17 = s0 98 17 ∧ s55 98 18 = (s0 98 18) ∧ s55 98 13 = s0 98 13) => ?_))
              clear es52
              refine h_goto (pc' := 140) rfl rfl ?_
              exact h_wk [(0, .ref 98), (1, .int y1)] ⟨rfl, rfl, trivial⟩ (ih.2.2 _ Is55 Fs55 y1 _ hy1 (by omega) (by omega) (by omega) (by omega) (by omega) (by omega) (by omega))
            · refine h_bipush (pc' := 177) (x := (Int32.ofInt 10)) rfl rfl cb_10 ?_
              refine h_aload_n (pc' := 178) rfl rfl rfl ?_
              refine h_getI (pc' := 181) (v := s0 98 18) rfl rfl rfl rfl rfl rfl (fun z56 hz56 => ?_)
              have tz56 := tf_98_18 I0
              refine h_imul (pc' := 182) rfl rfl ci_10 hz56 rfl (by omega) (by omega) (fun z57 hz57 => ?_)
              refine h_aload_n (pc' := 183) rfl rfl rfl ?_
              refine h_aload_n (pc' := 184) rfl rfl rfl ?_
              refine h_getI (pc' := 187) (v := s0 98 15) rfl rfl rfl rfl rfl rfl (fun z58 hz58 => ?_)
              have tz58 := tf_98_15 I0
              refine h_call (sp := false) (pc' := 190) (M := [(0, .ref 98), (1, .int z58)]) rfl rfl rfl rfl rfl rfl rfl rfl ?_
              refine h_iload_n (pc' := 1) rfl rfl rfl ?_
              refine h_aload_n (pc' := 2) rfl rfl rfl ?_
              refine h_getI (pc' := 5) (v := σ 98 11) rfl rfl rfl rfl rfl (F0_ 98 11 rfl) (fun z59 hz59 => ?_)
              have tz59 := tf_98_11 hI
              refine h_cge (tg := 17) (pc' := 8) rfl rfl rfl hz58 hz59 (fun c60 => ?_) (fun c60 => ?_)
              · refine h_bipush (pc' := 19) (x := (Int32.ofInt (-4))) rfl rfl cb_m4 ?_
                refine h_iret rfl rfl (h_Kv ?_)
                refine h_iadd (pc' := 191) rfl rfl hz57 ci_m4 rfl (by omega) (by omega) (fun z61 hz61 => ?_)
                refine h_bipush (pc' := 193) (x := (Int32.ofInt 48)) rfl rfl cb_48 ?_
                refine h_isub (pc' := 194) rfl rfl hz61 ci_48 rfl (by omega) (by omega) (fun z62 hz62 => ?_)
                refine h_goto (pc' := 201) rfl rfl ?_
                refine h_put (pc' := 204) rfl rfl rfl rfl rfl rfl hz62 rfl (h_fgt (E := fun s => s 98 15 = s0 98 15 ∧ s 98 16 = s0 98 16 ∧ s 98 17 = s0 98 17 ∧ s 98 18 = (((10 * (s0 98 18)) + (-4)) - 48) ∧ s 98 13 = s0 98 13) _ (if_98_18 I0 (by omega)) (F0_.up rfl) ⟨rfl, rfl, rfl, rfl, rfl⟩ (fun s63 Is63 Fs63 (es63 : s63 98 15 = s0 98 15 ∧ s63 98 16 = s0 98 16 ∧ s63 98 17 = s0 98 17 ∧ s63 98 18 = (((10 * (s0 98 18)) + (-4)) - 48) ∧ s63 98 13 = s0 98 13) => ?_))
                refine h_aload_n (pc' := 205) rfl rfl rfl ?_
                refine h_dup (pc' := 206) rfl rfl rfl ?_
                refine h_getI (pc' := 209) (v := s0 98 15) rfl rfl rfl rfl rfl es63.1 (fun z64 hz64 => ?_)
                have tz64 := tf_98_15 I0
                refine h_iconst (pc' := 210) (x := (Int32.ofInt 1)) rfl rfl rfl ?_
                refine h_iadd (pc' := 211) rfl rfl hz64 ci_1 rfl (by omega) (by omega) (fun z65 hz65 => ?_)
                refine h_put (pc' := 214) rfl rfl rfl rfl rfl rfl hz65 rfl (h_fgt (E := fun s => s 98 15 = ((s0 98 15) + 1) ∧ s 98 16 = s0 98 16 ∧ s 98 17 = s0 98 17 ∧ s 98 18 = (((10 * (s0 98 18)) + (-4)) - 48) ∧ s 98 13 = s0 98 13) _ (if_98_15 Is63 (by omega)) (Fs63.up rfl) ⟨rfl, es63.2.1, es63.2.2.1, es63.2.2.2.1, es63.2.2.2.2⟩ (fun s66 Is66 Fs66 (es66 : s66 98 15 = ((s0 98 15) + 1) ∧ s66 98 16 = s0 98 16 ∧ s66 98 17 = s0 98 17 ∧ s66 98 18 = (((10 * (s0 98 18)) + (-4)) - 48) ∧ s66 98 13 = s0 98 13) => ?_))
                clear es63
                refine h_goto (pc' := 140) rfl rfl ?_
                exact h_wk [(0, .ref 98), (1, .int y1)] ⟨rfl, rfl, trivial⟩ (ih.2.2 _ Is66 Fs66 y1 _ hy1 (by omega) (by omega) (by omega) (by omega) (by omega) (by omega) (by omega))
              · refine h_aload_n (pc' := 9) rfl rfl rfl ?_
                refine h_getR (pc' := 12) rfl rfl rfl rfl rfl ?_
                refine h_iload_n (pc' := 13) rfl rfl rfl ?_
                refine h_iald (pc' := 14) (v := σ 102 (s0 98 15)) rfl rfl rfl hz58 (by omega) (by omega) (F0_ 102 _ rfl) (fun z67 hz67 => ?_)
                have tz67 := ty_102 hI (s0 98 15)
                refine h_goto (pc' := 19) rfl rfl ?_
                refine h_iret rfl rfl (h_Kv ?_)
                refine h_iadd (pc' := 191) rfl rfl hz57 hz67 rfl (by omega) (by omega) (fun z68 hz68 => ?_)
                refine h_bipush (pc' := 193) (x := (Int32.ofInt 48)) rfl rfl cb_48 ?_
                refine h_isub (pc' := 194) rfl rfl hz68 ci_48 rfl (by omega) (by omega) (fun z69 hz69 => ?_)
                refine h_goto (pc' := 201) rfl rfl ?_
                refine h_put (pc' := 204) rfl rfl rfl rfl rfl rfl hz69 rfl (h_fgt (E := fun s => s 98 15 = s0 98 15 ∧ s 98 16 = s0 98 16 ∧ s 98 17 = s0 98 17 ∧ s 98 18 = (((10 * (s0 98 18)) + (σ 102 (s0 98 15))) - 48) ∧ s 98 13 = s0 98 13) _ (if_98_18 I0 (by omega)) (F0_.up rfl) ⟨rfl, rfl, rfl, rfl, rfl⟩ (fun s70 Is70 Fs70 (es70 : s70 98 15 = s0 98 15 ∧ s70 98 16 = s0 98 16 ∧ s70 98 17 = s0 98 17 ∧ s70 98 18 = (((10 * (s0 98 18)) + (σ 102 (s0 98 15))) - 48) ∧ s70 98 13 = s0 98 13) => ?_))
                refine h_aload_n (pc' := 205) rfl rfl rfl ?_
                refine h_dup (pc' := 206) rfl rfl rfl ?_
                refine h_getI (pc' := 209) (v := s0 98 15) rfl rfl rfl rfl rfl es70.1 (fun z71 hz71 => ?_)
                have tz71 := tf_98_15 I0
                refine h_iconst (pc' := 210) (x := (Int32.ofInt 1)) rfl rfl rfl ?_
                refine h_iadd (pc' := 211) rfl rfl hz71 ci_1 rfl (by omega) (by omega) (fun z72 hz72 => ?_)
                refine h_put (pc' := 214) rfl rfl rfl rfl rfl rfl hz72 rfl (h_fgt (E := fun s => s 98 15 = ((s0 98 15) + 1) ∧ s 98 16 = s0 98 16 ∧ s 98 17 = s0 98 17 ∧ s 98 18 = (((10 * (s0 98 18)) + (σ 102 (s0 98 15))) - 48) ∧ s 98 13 = s0 98 13) _ (if_98_15 Is70 (by omega)) (Fs70.up rfl) ⟨rfl, es70.2.1, es70.2.2.1, es70.2.2.2.1, es70.2.2.2.2⟩ (fun s73 Is73 Fs73 (es73 : s73 98 15 = ((s0 98 15) + 1) ∧ s73 98 16 = s0 98 16 ∧ s73 98 17 = s0 98 17 ∧ s73 98 18 = (((10 * (s0 98 18)) + (σ 102 (s0 98 15))) - 48) ∧ s73 98 13 = s0 98 13) => ?_))
                clear es70
                refine h_goto (pc' := 140) rfl rfl ?_
                exact h_wk [(0, .ref 98), (1, .int y1)] ⟨rfl, rfl, trivial⟩ (ih.2.2 _ Is73 Fs73 y1 _ hy1 (by omega) (by omega) (by omega) (by omega) (by omega) (by omega) (by omega))
set_option maxHeartbeats 100000000 in
theorem v_step {ns : Nat} (σ : h_S) (hI : h_I σ) {Q : Option Value → h_S → Prop} (kk : ∀ (τ : h_S), h_I τ → h_F (k_in kf_v_step) τ σ → (((1 ≤ σ 98 13 ∧ σ 98 13 ≤ 6) ∧ (1 ≤ τ 98 13 ∧ τ 98 13 ≤ 6) ∧ (τ 98 15 = σ 98 15) ∧ (τ 98 17 = σ 98 17)) ∨ ((σ 98 13 = 0) ∧ (τ 98 13 = 1) ∧ (0 ≤ τ 98 17 ∧ τ 98 17 ≤ 3) ∧ (σ 98 15 < τ 98 15)) ∨ ((σ 98 13 = 0) ∧ (τ 98 13 = 0) ∧ (τ 98 17 = 0) ∧ (σ 98 15 ≤ τ 98 15)) ∨ ((σ 98 13 = 0) ∧ (τ 98 13 = 0) ∧ (1 ≤ τ 98 17 ∧ τ 98 17 ≤ 3) ∧ (σ 98 15 < τ 98 15))) → Q none τ) : h_T g_P (g_Y ns) 148 0 [(0, .ref 98)] [] σ Q := by
  have F00 : h_F (k_in kf_v_step) σ σ := h_F.rf
  have ge0 := tf_98_15 hI
  have ge1 := tf_98_13 hI
  refine h_aload_n (pc' := 1) rfl rfl rfl ?_
  refine h_getI (pc' := 4) (v := σ 98 13) rfl rfl rfl rfl rfl rfl (fun z1 hz1 => ?_)
  have tz1 := tf_98_13 hI
  refine h_zle (tg := 8) (pc' := 7) rfl rfl rfl hz1 (fun c2 => ?_) (fun c2 => ?_)
  · exact h_wk [(0, .ref 98)] ⟨rfl, trivial⟩ ((v_step_l ns σ hI  kk 1000000000000).1 _ hI F00  (by omega) (by omega) (by omega) (by omega))
  · exact h_vret rfl rfl (kk _ hI F00 (Or.inl ⟨by omega, by omega, by omega, by omega⟩))
