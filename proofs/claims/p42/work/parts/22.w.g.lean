theorem v_areFoes_l (ns : Nat) (σ : h_S) (hI : h_I σ) (x0 : Int32) (a0 : Int) (hx0 : x0.toInt = a0) (x1 : Int32) (a1 : Int) (hx1 : x1.toInt = a1) {Q : Option Value → h_S → Prop} (kk : ∀ (r : Int32) (b : Int) (hb : r.toInt = b), (0 ≤ b ∧ b ≤ 1) → Q (some (.int r)) σ) : ∀ n : Nat, (∀ (y3 : Int32) (b3 : Int), y3.toInt = b3 → (0 ≤ b3 ∧ b3 ≤ 1) → ∀ (y4 : Int32) (b4 : Int), y4.toInt = b4 → (0 ≤ b4 ∧ b4 ≤ 3) → (3 + 1 - b4) * 1000000 + 1000000000 ≤ (n : Int) → h_T g_P (g_Y ns) 163 5 [(0, .ref 98), (1, .int x0), (2, .int x1), (3, .int y3), (4, .int y4)] [] σ Q) := by
  intro n
  induction n with
  | zero => exact by intro  y3 b3 hy3 ry3 y4 b4 hy4 ry4 hm; exfalso; omega
  | succ n ih =>
    intro  y3 b3 hy3 ry3 y4 b4 hy4 ry4 hm
    refine h_iload (pc' := 7) rfl rfl rfl ?_
    refine h_aload_n (pc' := 8) rfl rfl rfl ?_
    refine h_getR (pc' := 11) rfl rfl rfl rfl rfl ?_
    refine h_bipush (pc' := 13) (x := (Int32.ofInt 25)) rfl rfl cb_25 ?_
    refine h_iald (pc' := 14) (v := σ 99 25) rfl rfl rfl ci_25 (by omega) (by omega) rfl (fun z1 hz1 => ?_)
    have tz1 := ty_99_5 hI 25 (by omega)
    refine h_cge (tg := 87) (pc' := 17) rfl rfl rfl hy4 hz1 (fun c2 => ?_) (fun c2 => ?_)
    · refine h_iload_n (pc' := 88) rfl rfl rfl ?_
      exact h_zret rfl rfl hy3 (by omega) (kk _ _ hy3 (by omega))
    · refine h_aload_n (pc' := 18) rfl rfl rfl ?_
      refine h_getR (pc' := 21) rfl rfl rfl rfl rfl ?_
      refine h_bipush (pc' := 23) (x := (Int32.ofInt 19)) rfl rfl cb_19 ?_
      refine h_iconst (pc' := 24) (x := (Int32.ofInt 2)) rfl rfl rfl ?_
      refine h_iload (pc' := 26) rfl rfl rfl ?_
      refine h_imul (pc' := 27) rfl rfl ci_2 hy4 rfl (by omega) (by omega) (fun z3 hz3 => ?_)
      refine h_iadd (pc' := 28) rfl rfl ci_19 hz3 rfl (by omega) (by omega) (fun z4 hz4 => ?_)
      refine h_iald (pc' := 29) (v := σ 99 (19 + (2 * b4))) rfl rfl rfl hz4 (by omega) (by omega) rfl (fun z5 hz5 => ?_)
      have tz5 := ty_99_4 hI (19 + (2 * b4)) (by omega)
      refine h_istore (pc' := 31) (M := [(5, .int z5), (0, .ref 98), (1, .int x0), (2, .int x1), (3, .int y3), (4, .int y4)]) rfl rfl rfl rfl ?_
      refine h_aload_n (pc' := 32) rfl rfl rfl ?_
      refine h_getR (pc' := 35) rfl rfl rfl rfl rfl ?_
      refine h_bipush (pc' := 37) (x := (Int32.ofInt 19)) rfl rfl cb_19 ?_
      refine h_iconst (pc' := 38) (x := (Int32.ofInt 2)) rfl rfl rfl ?_
      refine h_iload (pc' := 40) rfl rfl rfl ?_
      refine h_imul (pc' := 41) rfl rfl ci_2 hy4 rfl (by omega) (by omega) (fun z6 hz6 => ?_)
      refine h_iadd (pc' := 42) rfl rfl ci_19 hz6 rfl (by omega) (by omega) (fun z7 hz7 => ?_)
      refine h_iconst (pc' := 43) (x := (Int32.ofInt 1)) rfl rfl rfl ?_
      refine h_iadd (pc' := 44) rfl rfl hz7 ci_1 rfl (by omega) (by omega) (fun z8 hz8 => ?_)
      refine h_iald (pc' := 45) (v := σ 99 ((19 + (2 * b4)) + 1)) rfl rfl rfl hz8 (by omega) (by omega) rfl (fun z9 hz9 => ?_)
      have tz9 := ty_99_4 hI ((19 + (2 * b4)) + 1) (by omega)
      refine h_istore (pc' := 47) (M := [(6, .int z9), (5, .int z5), (0, .ref 98), (1, .int x0), (2, .int x1), (3, .int y3), (4, .int y4)]) rfl rfl rfl rfl ?_
      refine h_iload_n (pc' := 48) rfl rfl rfl ?_
      refine h_zne (tg := 75) (pc' := 51) rfl rfl rfl hy3 (fun c10 => ?_) (fun c10 => ?_)
      · refine h_iconst (pc' := 76) (x := (Int32.ofInt 1)) rfl rfl rfl ?_
        refine h_goto (pc' := 80) rfl rfl ?_
        refine h_istore_n (pc' := 81) (M := [(3, .int (Int32.ofInt 1)), (6, .int z9), (5, .int z5), (0, .ref 98), (1, .int x0), (2, .int x1), (4, .int y4)]) rfl rfl rfl rfl ?_
        refine h_iinc (pc' := 84) (M := fun z11 => [(4, .int z11), (3, .int (Int32.ofInt 1)), (6, .int z9), (5, .int z5), (0, .ref 98), (1, .int x0), (2, .int x1)]) rfl rfl rfl rfl hy4 ci_1 rfl (by omega) (by omega) (fun _ => rfl) (fun z11 hz11 => ?_)
        refine h_goto (pc' := 5) rfl rfl ?_
        exact h_wk [(0, .ref 98), (1, .int x0), (2, .int x1), (3, .int (Int32.ofInt 1)), (4, .int z11)] ⟨rfl, rfl, rfl, rfl, rfl, trivial⟩ (ih (Int32.ofInt 1) _ ci_1 (by omega) z11 _ hz11 (by omega) (by omega))
      · refine h_iload (pc' := 53) rfl rfl rfl ?_
        refine h_iload_n (pc' := 54) rfl rfl rfl ?_
        refine h_cne (tg := 63) (pc' := 57) rfl rfl rfl hz5 hx0 (fun c12 => ?_) (fun c12 => ?_)
        · refine h_iload (pc' := 65) rfl rfl rfl ?_
          refine h_iload_n (pc' := 66) rfl rfl rfl ?_
          refine h_cne (tg := 79) (pc' := 69) rfl rfl rfl hz5 hx1 (fun c13 => ?_) (fun c13 => ?_)
          · refine h_iconst (pc' := 80) (x := (Int32.ofInt 0)) rfl rfl rfl ?_
            refine h_istore_n (pc' := 81) (M := [(3, .int (Int32.ofInt 0)), (6, .int z9), (5, .int z5), (0, .ref 98), (1, .int x0), (2, .int x1), (4, .int y4)]) rfl rfl rfl rfl ?_
            refine h_iinc (pc' := 84) (M := fun z14 => [(4, .int z14), (3, .int (Int32.ofInt 0)), (6, .int z9), (5, .int z5), (0, .ref 98), (1, .int x0), (2, .int x1)]) rfl rfl rfl rfl hy4 ci_1 rfl (by omega) (by omega) (fun _ => rfl) (fun z14 hz14 => ?_)
            refine h_goto (pc' := 5) rfl rfl ?_
            exact h_wk [(0, .ref 98), (1, .int x0), (2, .int x1), (3, .int (Int32.ofInt 0)), (4, .int z14)] ⟨rfl, rfl, rfl, rfl, rfl, trivial⟩ (ih (Int32.ofInt 0) _ ci_0 (by omega) z14 _ hz14 (by omega) (by omega))
          · refine h_iload (pc' := 71) rfl rfl rfl ?_
            refine h_iload_n (pc' := 72) rfl rfl rfl ?_
            refine h_cne (tg := 79) (pc' := 75) rfl rfl rfl hz9 hx0 (fun c15 => ?_) (fun c15 => ?_)
            · refine h_iconst (pc' := 80) (x := (Int32.ofInt 0)) rfl rfl rfl ?_
              refine h_istore_n (pc' := 81) (M := [(3, .int (Int32.ofInt 0)), (6, .int z9), (5, .int z5), (0, .ref 98), (1, .int x0), (2, .int x1), (4, .int y4)]) rfl rfl rfl rfl ?_
              refine h_iinc (pc' := 84) (M := fun z16 => [(4, .int z16), (3, .int (Int32.ofInt 0)), (6, .int z9), (5, .int z5), (0, .ref 98), (1, .int x0), (2, .int x1)]) rfl rfl rfl rfl hy4 ci_1 rfl (by omega) (by omega) (fun _ => rfl) (fun z16 hz16 => ?_)
              refine h_goto (pc' := 5) rfl rfl ?_
              exact h_wk [(0, .ref 98), (1, .int x0), (2, .int x1), (3, .int (Int32.ofInt 0)), (4, .int z16)] ⟨rfl, rfl, rfl, rfl, rfl, trivial⟩ (ih (Int32.ofInt 0) _ ci_0 (by omega) z16 _ hz16 (by omega) (by omega))
            · refine h_iconst (pc' := 76) (x := (Int32.ofInt 1)) rfl rfl rfl ?_
              refine h_goto (pc' := 80) rfl rfl ?_
              refine h_istore_n (pc' := 81) (M := [(3, .int (Int32.ofInt 1)), (6, .int z9), (5, .int z5), (0, .ref 98), (1, .int x0), (2, .int x1), (4, .int y4)]) rfl rfl rfl rfl ?_
              refine h_iinc (pc' := 84) (M := fun z17 => [(4, .int z17), (3, .int (Int32.ofInt 1)), (6, .int z9), (5, .int z5), (0, .ref 98), (1, .int x0), (2, .int x1)]) rfl rfl rfl rfl hy4 ci_1 rfl (by omega) (by omega) (fun _ => rfl) (fun z17 hz17 => ?_)
              refine h_goto (pc' := 5) rfl rfl ?_
              exact h_wk [(0, .ref 98), (1, .int x0), (2, .int x1), (3, .int (Int32.ofInt 1)), (4, .int z17)] ⟨rfl, rfl, rfl, rfl, rfl, trivial⟩ (ih (Int32.ofInt 1) _ ci_1 (by omega) z17 _ hz17 (by omega) (by omega))
        · refine h_iload (pc' := 59) rfl rfl rfl ?_
          refine h_iload_n (pc' := 60) rfl rfl rfl ?_
          refine h_ceq (tg := 75) (pc' := 63) rfl rfl rfl hz9 hx1 (fun c18 => ?_) (fun c18 => ?_)
          · refine h_iconst (pc' := 76) (x := (Int32.ofInt 1)) rfl rfl rfl ?_
            refine h_goto (pc' := 80) rfl rfl ?_
            refine h_istore_n (pc' := 81) (M := [(3, .int (Int32.ofInt 1)), (6, .int z9), (5, .int z5), (0, .ref 98), (1, .int x0), (2, .int x1), (4, .int y4)]) rfl rfl rfl rfl ?_
            refine h_iinc (pc' := 84) (M := fun z19 => [(4, .int z19), (3, .int (Int32.ofInt 1)), (6, .int z9), (5, .int z5), (0, .ref 98), (1, .int x0), (2, .int x1)]) rfl rfl rfl rfl hy4 ci_1 rfl (by omega) (by omega) (fun _ => rfl) (fun z19 hz19 => ?_)
            refine h_goto (pc' := 5) rfl rfl ?_
            exact h_wk [(0, .ref 98), (1, .int x0), (2, .int x1), (3, .int (Int32.ofInt 1)), (4, .int z19)] ⟨rfl, rfl, rfl, rfl, rfl, trivial⟩ (ih (Int32.ofInt 1) _ ci_1 (by omega) z19 _ hz19 (by omega) (by omega))
          · refine h_iload (pc' := 65) rfl rfl rfl ?_
            refine h_iload_n (pc' := 66) rfl rfl rfl ?_
            refine h_cne (tg := 79) (pc' := 69) rfl rfl rfl hz5 hx1 (fun c20 => ?_) (fun c20 => ?_)
            · refine h_iconst (pc' := 80) (x := (Int32.ofInt 0)) rfl rfl rfl ?_
              refine h_istore_n (pc' := 81) (M := [(3, .int (Int32.ofInt 0)), (6, .int z9), (5, .int z5), (0, .ref 98), (1, .int x0), (2, .int x1), (4, .int y4)]) rfl rfl rfl rfl ?_
              refine h_iinc (pc' := 84) (M := fun z21 => [(4, .int z21), (3, .int (Int32.ofInt 0)), (6, .int z9), (5, .int z5), (0, .ref 98), (1, .int x0), (2, .int x1)]) rfl rfl rfl rfl hy4 ci_1 rfl (by omega) (by omega) (fun _ => rfl) (fun z21 hz21 => ?_)
              refine h_goto (pc' := 5) rfl rfl ?_
              exact h_wk [(0, .ref 98), (1, .int x0), (2, .int x1), (3, .int (Int32.ofInt 0)), (4, .int z21)] ⟨rfl, rfl, rfl, rfl, rfl, trivial⟩ (ih (Int32.ofInt 0) _ ci_0 (by omega) z21 _ hz21 (by omega) (by omega))
            · refine h_iload (pc' := 71) rfl rfl rfl ?_
              refine h_iload_n (pc' := 72) rfl rfl rfl ?_
              refine h_cne (tg := 79) (pc' := 75) rfl rfl rfl hz9 hx0 (fun c22 => ?_) (fun c22 => ?_)
              · refine h_iconst (pc' := 80) (x := (Int32.ofInt 0)) rfl rfl rfl ?_
                refine h_istore_n (pc' := 81) (M := [(3, .int (Int32.ofInt 0)), (6, .int z9), (5, .int z5), (0, .ref 98), (1, .int x0), (2, .int x1), (4, .int y4)]) rfl rfl rfl rfl ?_
                refine h_iinc (pc' := 84) (M := fun z23 => [(4, .int z23), (3, .int (Int32.ofInt 0)), (6, .int z9), (5, .int z5), (0, .ref 98), (1, .int x0), (2, .int x1)]) rfl rfl rfl rfl hy4 ci_1 rfl (by omega) (by omega) (fun _ => rfl) (fun z23 hz23 => ?_)
                refine h_goto (pc' := 5) rfl rfl ?_
                exact h_wk [(0, .ref 98), (1, .int x0), (2, .int x1), (3, .int (Int32.ofInt 0)), (4, .int z23)] ⟨rfl, rfl, rfl, rfl, rfl, trivial⟩ (ih (Int32.ofInt 0) _ ci_0 (by omega) z23 _ hz23 (by omega) (by omega))
              · refine h_iconst (pc' := 76) (x := (Int32.ofInt 1)) rfl rfl rfl ?_
                refine h_goto (pc' := 80) rfl rfl ?_
                refine h_istore_n (pc' := 81) (M := [(3, .int (Int32.ofInt 1)), (6, .int z9), (5, .int z5), (0, .ref 98), (1, .int x0), (2, .int x1), (4, .int y4)]) rfl rfl rfl rfl ?_
                refine h_iinc (pc' := 84) (M := fun z24 => [(4, .int z24), (3, .int (Int32.ofInt 1)), (6, .int z9), (5, .int z5), (0, .ref 98), (1, .int x0), (2, .int x1)]) rfl rfl rfl rfl hy4 ci_1 rfl (by omega) (by omega) (fun _ => rfl) (fun z24 hz24 => ?_)
                refine h_goto (pc' := 5) rfl rfl ?_
                exact h_wk [(0, .ref 98), (1, .int x0), (2, .int x1), (3, .int (Int32.ofInt 1)), (4, .int z24)] ⟨rfl, rfl, rfl, rfl, rfl, trivial⟩ (ih (Int32.ofInt 1) _ ci_1 (by omega) z24 _ hz24 (by omega) (by omega))
theorem v_areFoes {ns : Nat} (σ : h_S) (hI : h_I σ) (x0 : Int32) (a0 : Int) (hx0 : x0.toInt = a0) (x1 : Int32) (a1 : Int) (hx1 : x1.toInt = a1) {Q : Option Value → h_S → Prop} (kk : ∀ (r : Int32) (b : Int) (hb : r.toInt = b), (0 ≤ b ∧ b ≤ 1) → Q (some (.int r)) σ) : h_T g_P (g_Y ns) 163 0 [(0, .ref 98), (1, .int x0), (2, .int x1)] [] σ Q := by
  refine h_iconst (pc' := 1) (x := (Int32.ofInt 0)) rfl rfl rfl ?_
  refine h_istore_n (pc' := 2) (M := [(3, .int (Int32.ofInt 0)), (0, .ref 98), (1, .int x0), (2, .int x1)]) rfl rfl rfl rfl ?_
  refine h_iconst (pc' := 3) (x := (Int32.ofInt 0)) rfl rfl rfl ?_
  refine h_istore (pc' := 5) (M := [(4, .int (Int32.ofInt 0)), (3, .int (Int32.ofInt 0)), (0, .ref 98), (1, .int x0), (2, .int x1)]) rfl rfl rfl rfl ?_
  exact h_wk [(0, .ref 98), (1, .int x0), (2, .int x1), (3, .int (Int32.ofInt 0)), (4, .int (Int32.ofInt 0))] ⟨rfl, rfl, rfl, rfl, rfl, trivial⟩ ((v_areFoes_l ns σ hI x0 a0 hx0 x1 a1 hx1 kk 1000000000000) (Int32.ofInt 0) _ ci_0 (by omega) (Int32.ofInt 0) _ ci_0 (by omega) (by omega))
theorem v_mayGo {ns : Nat} (σ : h_S) (hI : h_I σ) (x0 : Int32) (a0 : Int) (hx0 : x0.toInt = a0) (ra0 : 0 ≤ a0 ∧ a0 ≤ 5) (x1 : Int32) (a1 : Int) (hx1 : x1.toInt = a1) (ra1 : -4 ≤ a1 ∧ a1 ≤ 5 ∧ (a1 = -4 ∨ 0 ≤ a1)) (x2 : Int32) (a2 : Int) (hx2 : x2.toInt = a2) {Q : Option Value → h_S → Prop} (kk : ∀ (r : Int32) (b : Int) (hb : r.toInt = b), (0 ≤ b ∧ b ≤ 1) → Q (some (.int r)) σ) : h_T g_P (g_Y ns) 164 0 [(0, .ref 98), (1, .int x0), (2, .int x1), (3, .int x2)] [] σ Q := by
  refine h_iload_n (pc' := 1) rfl rfl rfl ?_
  refine h_bipush (pc' := 3) (x := (Int32.ofInt (-4))) rfl rfl cb_m4 ?_
  refine h_ceq (tg := 30) (pc' := 6) rfl rfl rfl hx1 ci_m4 (fun c1 => ?_) (fun c1 => ?_)
  · refine h_iconst (pc' := 31) (x := (Int32.ofInt 1)) rfl rfl rfl ?_
    refine h_goto (pc' := 35) rfl rfl ?_
    exact h_zret rfl rfl ci_1 (by omega) (kk _ _ ci_1 (by omega))
  · refine h_aload_n (pc' := 7) rfl rfl rfl ?_
    refine h_getR (pc' := 10) rfl rfl rfl rfl rfl ?_
    refine h_bipush (pc' := 12) (x := (Int32.ofInt 6)) rfl rfl cb_6 ?_
    refine h_iload_n (pc' := 13) rfl rfl rfl ?_
    refine h_imul (pc' := 14) rfl rfl ci_6 hx1 rfl (by omega) (by omega) (fun z2 hz2 => ?_)
    refine h_iload_n (pc' := 15) rfl rfl rfl ?_
    refine h_iadd (pc' := 16) rfl rfl hz2 hx0 rfl (by omega) (by omega) (fun z3 hz3 => ?_)
    refine h_iald (pc' := 17) (v := σ 105 ((6 * a1) + a0)) rfl rfl rfl hz3 (by omega) (by omega) rfl (fun z4 hz4 => ?_)
    have tz4 := ty_105 hI ((6 * a1) + a0)
    refine h_iload_n (pc' := 18) rfl rfl rfl ?_
    refine h_cgt (tg := 34) (pc' := 21) rfl rfl rfl hz4 hx2 (fun c5 => ?_) (fun c5 => ?_)
    · refine h_iconst (pc' := 35) (x := (Int32.ofInt 0)) rfl rfl rfl ?_
      exact h_zret rfl rfl ci_0 (by omega) (kk _ _ ci_0 (by omega))
    · refine h_aload_n (pc' := 22) rfl rfl rfl ?_
      refine h_iload_n (pc' := 23) rfl rfl rfl ?_
      refine h_iload_n (pc' := 24) rfl rfl rfl ?_
      refine h_call (sp := false) (pc' := 27) (M := [(0, .ref 98), (1, .int x0), (2, .int x1)]) rfl rfl rfl rfl rfl rfl rfl rfl ?_
      refine v_areFoes _ hI x0 _ hx0 x1 _ hx1 (fun r6 br6 hr6 tr6 => h_Kv ?_)
      refine h_zne (tg := 34) (pc' := 30) rfl rfl rfl hr6 (fun c8 => ?_) (fun c8 => ?_)
      · refine h_iconst (pc' := 35) (x := (Int32.ofInt 0)) rfl rfl rfl ?_
        exact h_zret rfl rfl ci_0 (by omega) (kk _ _ ci_0 (by omega))
      · refine h_iconst (pc' := 31) (x := (Int32.ofInt 1)) rfl rfl rfl ?_
        refine h_goto (pc' := 35) rfl rfl ?_
        exact h_zret rfl rfl ci_1 (by omega) (kk _ _ ci_1 (by omega))
theorem v_stands0 {ns : Nat} (σ : h_S) (hI : h_I σ) (x0 : Int32) (a0 : Int) (hx0 : x0.toInt = a0) (ra0 : 0 ≤ a0 ∧ a0 ≤ 2) (pr0 : 0 ≤ σ 106 0 ∧ σ 106 0 ≤ 5) {Q : Option Value → h_S → Prop} (kk : ∀ (r : Int32) (b : Int) (hb : r.toInt = b), (0 ≤ b ∧ b ≤ 1) → Q (some (.int r)) σ) : h_T g_P (g_Y ns) 196 0 [(0, .ref 98), (1, .int x0), (2, .int (Int32.ofInt 0))] [] σ Q := by
  refine h_iconst (pc' := 1) (x := (Int32.ofInt 0)) rfl rfl rfl ?_
  refine h_istore_n (pc' := 2) (M := [(3, .int (Int32.ofInt 0)), (0, .ref 98), (1, .int x0), (2, .int (Int32.ofInt 0))]) rfl rfl rfl rfl ?_
  refine h_iload_n (pc' := 3) rfl rfl rfl ?_
  refine h_iload_n (pc' := 4) rfl rfl rfl ?_
  refine h_cge (tg := 30) (pc' := 7) rfl rfl rfl ci_0 ci_0 (fun c1 => ?_) (fun c1 => absurd c1 (by omega))
  refine h_iload_n (pc' := 31) rfl rfl rfl ?_
  refine h_zne (tg := 49) (pc' := 34) rfl rfl rfl ci_0 (fun c2 => absurd c2 (by omega)) (fun c2 => ?_)
  refine h_aload_n (pc' := 35) rfl rfl rfl ?_
  refine h_getR (pc' := 38) rfl rfl rfl rfl rfl ?_
  refine h_bipush (pc' := 40) (x := (Int32.ofInt 29)) rfl rfl cb_29 ?_
  refine h_iload_n (pc' := 41) rfl rfl rfl ?_
  refine h_iadd (pc' := 42) rfl rfl ci_29 hx0 rfl (by omega) (by omega) (fun z3 hz3 => ?_)
  refine h_iald (pc' := 43) (v := σ 99 (29 + a0)) rfl rfl rfl hz3 (by omega) (by omega) rfl (fun z4 hz4 => ?_)
  have tz4 := ty_99_7 hI (29 + a0) (by omega)
  refine h_calls (pc' := 46) (M := [(0, .int z4)]) rfl rfl rfl rfl rfl rfl ?_
  refine h_iload_n (pc' := 1) rfl rfl rfl ?_
  refine h_zne (tg := 9) (pc' := 4) rfl rfl rfl hz4 (fun c5 => ?_) (fun c5 => ?_)
  · refine h_iload_n (pc' := 10) rfl rfl rfl ?_
    refine h_iconst (pc' := 11) (x := (Int32.ofInt 1)) rfl rfl rfl ?_
    refine h_isub (pc' := 12) rfl rfl hz4 ci_1 rfl (by omega) (by omega) (fun z6 hz6 => ?_)
    refine h_iret rfl rfl (h_Kv ?_)
    refine h_goto (pc' := 57) rfl rfl ?_
    refine h_istore_n (pc' := 58) (M := [(3, .int z6), (0, .ref 98), (1, .int x0), (2, .int (Int32.ofInt 0))]) rfl rfl rfl rfl ?_
    refine h_aload_n (pc' := 59) rfl rfl rfl ?_
    refine h_aload_n (pc' := 60) rfl rfl rfl ?_
    refine h_getR (pc' := 63) rfl rfl rfl rfl rfl ?_
    refine h_iload_n (pc' := 64) rfl rfl rfl ?_
    refine h_iald (pc' := 65) (v := σ 106 0) rfl rfl rfl ci_0 (by omega) (by omega) rfl (fun z7 hz7 => ?_)
    have tz7 := ty_106 hI 0
    refine h_iload_n (pc' := 66) rfl rfl rfl ?_
    refine h_aload_n (pc' := 67) rfl rfl rfl ?_
    refine h_getR (pc' := 70) rfl rfl rfl rfl rfl ?_
    refine h_bipush (pc' := 72) (x := (Int32.ofInt 26)) rfl rfl cb_26 ?_
    refine h_iload_n (pc' := 73) rfl rfl rfl ?_
    refine h_iadd (pc' := 74) rfl rfl ci_26 hx0 rfl (by omega) (by omega) (fun z8 hz8 => ?_)
    refine h_iald (pc' := 75) (v := σ 99 (26 + a0)) rfl rfl rfl hz8 (by omega) (by omega) rfl (fun z9 hz9 => ?_)
    have tz9 := ty_99_6 hI (26 + a0) (by omega)
    refine h_call (sp := false) (pc' := 78) (M := [(0, .ref 98), (1, .int z7), (2, .int z6), (3, .int z9)]) rfl rfl rfl rfl rfl rfl rfl rfl ?_
    refine v_mayGo _ hI z7 _ hz7 (by omega) z6 _ hz6 (by omega) z9 _ hz9 (fun r10 br10 hr10 tr10 => h_Kv ?_)
    exact h_zret rfl rfl hr10 (by omega) (kk _ _ hr10 (by omega))
  · refine h_bipush (pc' := 6) (x := (Int32.ofInt (-4))) rfl rfl cb_m4 ?_
    refine h_goto (pc' := 12) rfl rfl ?_
    refine h_iret rfl rfl (h_Kv ?_)
    refine h_goto (pc' := 57) rfl rfl ?_
    refine h_istore_n (pc' := 58) (M := [(3, .int (Int32.ofInt (-4))), (0, .ref 98), (1, .int x0), (2, .int (Int32.ofInt 0))]) rfl rfl rfl rfl ?_
    refine h_aload_n (pc' := 59) rfl rfl rfl ?_
    refine h_aload_n (pc' := 60) rfl rfl rfl ?_
    refine h_getR (pc' := 63) rfl rfl rfl rfl rfl ?_
    refine h_iload_n (pc' := 64) rfl rfl rfl ?_
    refine h_iald (pc' := 65) (v := σ 106 0) rfl rfl rfl ci_0 (by omega) (by omega) rfl (fun z12 hz12 => ?_)
    have tz12 := ty_106 hI 0
    refine h_iload_n (pc' := 66) rfl rfl rfl ?_
    refine h_aload_n (pc' := 67) rfl rfl rfl ?_
    refine h_getR (pc' := 70) rfl rfl rfl rfl rfl ?_
    refine h_bipush (pc' := 72) (x := (Int32.ofInt 26)) rfl rfl cb_26 ?_
    refine h_iload_n (pc' := 73) rfl rfl rfl ?_
    refine h_iadd (pc' := 74) rfl rfl ci_26 hx0 rfl (by omega) (by omega) (fun z13 hz13 => ?_)
    refine h_iald (pc' := 75) (v := σ 99 (26 + a0)) rfl rfl rfl hz13 (by omega) (by omega) rfl (fun z14 hz14 => ?_)
    have tz14 := ty_99_6 hI (26 + a0) (by omega)
    refine h_call (sp := false) (pc' := 78) (M := [(0, .ref 98), (1, .int z12), (2, .int (Int32.ofInt (-4))), (3, .int z14)]) rfl rfl rfl rfl rfl rfl rfl rfl ?_
    refine v_mayGo _ hI z12 _ hz12 (by omega) (Int32.ofInt (-4)) _ ci_m4 (by omega) z14 _ hz14 (fun r15 br15 hr15 tr15 => h_Kv ?_)
    exact h_zret rfl rfl hr15 (by omega) (kk _ _ hr15 (by omega))
theorem v_stands1 {ns : Nat} (σ : h_S) (hI : h_I σ) (x0 : Int32) (a0 : Int) (hx0 : x0.toInt = a0) (ra0 : 0 ≤ a0 ∧ a0 ≤ 2) (pr0 : 0 ≤ σ 106 1 ∧ σ 106 1 ≤ 5) (pr1 : 0 ≤ σ 106 0 ∧ σ 106 0 ≤ 5) {Q : Option Value → h_S → Prop} (kk : ∀ (r : Int32) (b : Int) (hb : r.toInt = b), (0 ≤ b ∧ b ≤ 1) → (b = 1 → ¬ σ 106 0 = σ 106 1) → Q (some (.int r)) σ) : h_T g_P (g_Y ns) 196 0 [(0, .ref 98), (1, .int x0), (2, .int (Int32.ofInt 1))] [] σ Q := by
  refine h_iconst (pc' := 1) (x := (Int32.ofInt 0)) rfl rfl rfl ?_
  refine h_istore_n (pc' := 2) (M := [(3, .int (Int32.ofInt 0)), (0, .ref 98), (1, .int x0), (2, .int (Int32.ofInt 1))]) rfl rfl rfl rfl ?_
  refine h_iload_n (pc' := 3) rfl rfl rfl ?_
  refine h_iload_n (pc' := 4) rfl rfl rfl ?_
  refine h_cge (tg := 30) (pc' := 7) rfl rfl rfl ci_0 ci_1 (fun c1 => absurd c1 (by omega)) (fun c1 => ?_)
  refine h_aload_n (pc' := 8) rfl rfl rfl ?_
  refine h_getR (pc' := 11) rfl rfl rfl rfl rfl ?_
  refine h_iload_n (pc' := 12) rfl rfl rfl ?_
  refine h_iald (pc' := 13) (v := σ 106 0) rfl rfl rfl ci_0 (by omega) (by omega) rfl (fun z2 hz2 => ?_)
  have tz2 := ty_106 hI 0
  refine h_aload_n (pc' := 14) rfl rfl rfl ?_
  refine h_getR (pc' := 17) rfl rfl rfl rfl rfl ?_
  refine h_iload_n (pc' := 18) rfl rfl rfl ?_
  refine h_iald (pc' := 19) (v := σ 106 1) rfl rfl rfl ci_1 (by omega) (by omega) rfl (fun z3 hz3 => ?_)
  have tz3 := ty_106 hI 1
  refine h_cne (tg := 24) (pc' := 22) rfl rfl rfl hz2 hz3 (fun c4 => ?_) (fun c4 => ?_)
  · refine h_iinc (pc' := 27) (b := 1) (M := fun z5 => [(3, .int z5), (0, .ref 98), (1, .int x0), (2, .int (Int32.ofInt 1))]) rfl rfl rfl rfl ci_0 ci_1 rfl (by omega) (by omega) (fun _ => rfl) (fun z5 hz5 => ?_)
    refine h_goto (pc' := 2) rfl rfl ?_
    refine h_iload_n (pc' := 3) rfl rfl rfl ?_
    refine h_iload_n (pc' := 4) rfl rfl rfl ?_
    refine h_cge (tg := 30) (pc' := 7) rfl rfl rfl hz5 ci_1 (fun c6 => ?_) (fun c6 => absurd c6 (by omega))
    refine h_iload_n (pc' := 31) rfl rfl rfl ?_
    refine h_zne (tg := 49) (pc' := 34) rfl rfl rfl ci_1 (fun c7 => ?_) (fun c7 => absurd c7 (by omega))
    refine h_aload_n (pc' := 50) rfl rfl rfl ?_
    refine h_getR (pc' := 53) rfl rfl rfl rfl rfl ?_
    refine h_iload_n (pc' := 54) rfl rfl rfl ?_
    refine h_iconst (pc' := 55) (x := (Int32.ofInt 1)) rfl rfl rfl ?_
    refine h_isub (pc' := 56) (c := 0) rfl rfl ci_1 ci_1 rfl (by omega) (by omega) (fun z8 hz8 => ?_)
    refine h_iald (pc' := 57) (v := σ 106 0) rfl rfl rfl hz8 (by omega) (by omega) rfl (fun z9 hz9 => ?_)
    have tz9 := ty_106 hI 0
    refine h_istore_n (pc' := 58) (M := [(3, .int z9), (0, .ref 98), (1, .int x0), (2, .int (Int32.ofInt 1))]) rfl rfl rfl rfl ?_
    refine h_aload_n (pc' := 59) rfl rfl rfl ?_
    refine h_aload_n (pc' := 60) rfl rfl rfl ?_
    refine h_getR (pc' := 63) rfl rfl rfl rfl rfl ?_
    refine h_iload_n (pc' := 64) rfl rfl rfl ?_
    refine h_iald (pc' := 65) (v := σ 106 1) rfl rfl rfl ci_1 (by omega) (by omega) rfl (fun z10 hz10 => ?_)
    have tz10 := ty_106 hI 1
    refine h_iload_n (pc' := 66) rfl rfl rfl ?_
    refine h_aload_n (pc' := 67) rfl rfl rfl ?_
    refine h_getR (pc' := 70) rfl rfl rfl rfl rfl ?_
    refine h_bipush (pc' := 72) (x := (Int32.ofInt 26)) rfl rfl cb_26 ?_
    refine h_iload_n (pc' := 73) rfl rfl rfl ?_
    refine h_iadd (pc' := 74) rfl rfl ci_26 hx0 rfl (by omega) (by omega) (fun z11 hz11 => ?_)
    refine h_iald (pc' := 75) (v := σ 99 (26 + a0)) rfl rfl rfl hz11 (by omega) (by omega) rfl (fun z12 hz12 => ?_)
    have tz12 := ty_99_6 hI (26 + a0) (by omega)
    refine h_call (sp := false) (pc' := 78) (M := [(0, .ref 98), (1, .int z10), (2, .int z9), (3, .int z12)]) rfl rfl rfl rfl rfl rfl rfl rfl ?_
    refine v_mayGo _ hI z10 _ hz10 (by omega) z9 _ hz9 (by omega) z12 _ hz12 (fun r13 br13 hr13 tr13 => h_Kv ?_)
    exact h_zret rfl rfl hr13 (by omega) (kk _ _ hr13 (by omega) (by omega))
  · refine h_iconst (pc' := 23) (x := (Int32.ofInt 0)) rfl rfl rfl ?_
    exact h_zret rfl rfl ci_0 (by omega) (kk _ _ ci_0 (by omega) (by omega))
theorem v_stands2 {ns : Nat} (σ : h_S) (hI : h_I σ) (x0 : Int32) (a0 : Int) (hx0 : x0.toInt = a0) (ra0 : 0 ≤ a0 ∧ a0 ≤ 2) (pr0 : 0 ≤ σ 106 2 ∧ σ 106 2 ≤ 5) (pr1 : 0 ≤ σ 106 1 ∧ σ 106 1 ≤ 5) {Q : Option Value → h_S → Prop} (kk : ∀ (r : Int32) (b : Int) (hb : r.toInt = b), (0 ≤ b ∧ b ≤ 1) → (b = 1 → ¬ σ 106 0 = σ 106 2) → (b = 1 → ¬ σ 106 1 = σ 106 2) → Q (some (.int r)) σ) : h_T g_P (g_Y ns) 196 0 [(0, .ref 98), (1, .int x0), (2, .int (Int32.ofInt 2))] [] σ Q := by
  refine h_iconst (pc' := 1) (x := (Int32.ofInt 0)) rfl rfl rfl ?_
  refine h_istore_n (pc' := 2) (M := [(3, .int (Int32.ofInt 0)), (0, .ref 98), (1, .int x0), (2, .int (Int32.ofInt 2))]) rfl rfl rfl rfl ?_
  refine h_iload_n (pc' := 3) rfl rfl rfl ?_
  refine h_iload_n (pc' := 4) rfl rfl rfl ?_
  refine h_cge (tg := 30) (pc' := 7) rfl rfl rfl ci_0 ci_2 (fun c1 => absurd c1 (by omega)) (fun c1 => ?_)
  refine h_aload_n (pc' := 8) rfl rfl rfl ?_
  refine h_getR (pc' := 11) rfl rfl rfl rfl rfl ?_
  refine h_iload_n (pc' := 12) rfl rfl rfl ?_
  refine h_iald (pc' := 13) (v := σ 106 0) rfl rfl rfl ci_0 (by omega) (by omega) rfl (fun z2 hz2 => ?_)
  have tz2 := ty_106 hI 0
  refine h_aload_n (pc' := 14) rfl rfl rfl ?_
  refine h_getR (pc' := 17) rfl rfl rfl rfl rfl ?_
  refine h_iload_n (pc' := 18) rfl rfl rfl ?_
  refine h_iald (pc' := 19) (v := σ 106 2) rfl rfl rfl ci_2 (by omega) (by omega) rfl (fun z3 hz3 => ?_)
  have tz3 := ty_106 hI 2
  refine h_cne (tg := 24) (pc' := 22) rfl rfl rfl hz2 hz3 (fun c4 => ?_) (fun c4 => ?_)
  · refine h_iinc (pc' := 27) (b := 1) (M := fun z5 => [(3, .int z5), (0, .ref 98), (1, .int x0), (2, .int (Int32.ofInt 2))]) rfl rfl rfl rfl ci_0 ci_1 rfl (by omega) (by omega) (fun _ => rfl) (fun z5 hz5 => ?_)
    refine h_goto (pc' := 2) rfl rfl ?_
    refine h_iload_n (pc' := 3) rfl rfl rfl ?_
    refine h_iload_n (pc' := 4) rfl rfl rfl ?_
    refine h_cge (tg := 30) (pc' := 7) rfl rfl rfl hz5 ci_2 (fun c6 => absurd c6 (by omega)) (fun c6 => ?_)
    refine h_aload_n (pc' := 8) rfl rfl rfl ?_
    refine h_getR (pc' := 11) rfl rfl rfl rfl rfl ?_
    refine h_iload_n (pc' := 12) rfl rfl rfl ?_
    refine h_iald (pc' := 13) (v := σ 106 1) rfl rfl rfl hz5 (by omega) (by omega) rfl (fun z7 hz7 => ?_)
    have tz7 := ty_106 hI 1
    refine h_aload_n (pc' := 14) rfl rfl rfl ?_
    refine h_getR (pc' := 17) rfl rfl rfl rfl rfl ?_
    refine h_iload_n (pc' := 18) rfl rfl rfl ?_
    refine h_iald (pc' := 19) (v := σ 106 2) rfl rfl rfl ci_2 (by omega) (by omega) rfl (fun z8 hz8 => ?_)
    have tz8 := ty_106 hI 2
    refine h_cne (tg := 24) (pc' := 22) rfl rfl rfl hz7 hz8 (fun c9 => ?_) (fun c9 => ?_)
    · refine h_iinc (pc' := 27) (b := 2) (M := fun z10 => [(3, .int z10), (0, .ref 98), (1, .int x0), (2, .int (Int32.ofInt 2))]) rfl rfl rfl rfl hz5 ci_1 rfl (by omega) (by omega) (fun _ => rfl) (fun z10 hz10 => ?_)
      refine h_goto (pc' := 2) rfl rfl ?_
      refine h_iload_n (pc' := 3) rfl rfl rfl ?_
      refine h_iload_n (pc' := 4) rfl rfl rfl ?_
      refine h_cge (tg := 30) (pc' := 7) rfl rfl rfl hz10 ci_2 (fun c11 => ?_) (fun c11 => absurd c11 (by omega))
      refine h_iload_n (pc' := 31) rfl rfl rfl ?_
      refine h_zne (tg := 49) (pc' := 34) rfl rfl rfl ci_2 (fun c12 => ?_) (fun c12 => absurd c12 (by omega))
      refine h_aload_n (pc' := 50) rfl rfl rfl ?_
      refine h_getR (pc' := 53) rfl rfl rfl rfl rfl ?_
      refine h_iload_n (pc' := 54) rfl rfl rfl ?_
      refine h_iconst (pc' := 55) (x := (Int32.ofInt 1)) rfl rfl rfl ?_
      refine h_isub (pc' := 56) (c := 1) rfl rfl ci_2 ci_1 rfl (by omega) (by omega) (fun z13 hz13 => ?_)
      refine h_iald (pc' := 57) (v := σ 106 1) rfl rfl rfl hz13 (by omega) (by omega) rfl (fun z14 hz14 => ?_)
      have tz14 := ty_106 hI 1
      refine h_istore_n (pc' := 58) (M := [(3, .int z14), (0, .ref 98), (1, .int x0), (2, .int (Int32.ofInt 2))]) rfl rfl rfl rfl ?_
      refine h_aload_n (pc' := 59) rfl rfl rfl ?_
      refine h_aload_n (pc' := 60) rfl rfl rfl ?_
      refine h_getR (pc' := 63) rfl rfl rfl rfl rfl ?_
      refine h_iload_n (pc' := 64) rfl rfl rfl ?_
      refine h_iald (pc' := 65) (v := σ 106 2) rfl rfl rfl ci_2 (by omega) (by omega) rfl (fun z15 hz15 => ?_)
      have tz15 := ty_106 hI 2
      refine h_iload_n (pc' := 66) rfl rfl rfl ?_
      refine h_aload_n (pc' := 67) rfl rfl rfl ?_
      refine h_getR (pc' := 70) rfl rfl rfl rfl rfl ?_
      refine h_bipush (pc' := 72) (x := (Int32.ofInt 26)) rfl rfl cb_26 ?_
      refine h_iload_n (pc' := 73) rfl rfl rfl ?_
      refine h_iadd (pc' := 74) rfl rfl ci_26 hx0 rfl (by omega) (by omega) (fun z16 hz16 => ?_)
      refine h_iald (pc' := 75) (v := σ 99 (26 + a0)) rfl rfl rfl hz16 (by omega) (by omega) rfl (fun z17 hz17 => ?_)
      have tz17 := ty_99_6 hI (26 + a0) (by omega)
      refine h_call (sp := false) (pc' := 78) (M := [(0, .ref 98), (1, .int z15), (2, .int z14), (3, .int z17)]) rfl rfl rfl rfl rfl rfl rfl rfl ?_
      refine v_mayGo _ hI z15 _ hz15 (by omega) z14 _ hz14 (by omega) z17 _ hz17 (fun r18 br18 hr18 tr18 => h_Kv ?_)
      exact h_zret rfl rfl hr18 (by omega) (kk _ _ hr18 (by omega) (by omega) (by omega))
    · refine h_iconst (pc' := 23) (x := (Int32.ofInt 0)) rfl rfl rfl ?_
      exact h_zret rfl rfl ci_0 (by omega) (kk _ _ ci_0 (by omega) (by omega) (by omega))
  · refine h_iconst (pc' := 23) (x := (Int32.ofInt 0)) rfl rfl rfl ?_
    exact h_zret rfl rfl ci_0 (by omega) (kk _ _ ci_0 (by omega) (by omega) (by omega))
theorem v_stands3 {ns : Nat} (σ : h_S) (hI : h_I σ) (x0 : Int32) (a0 : Int) (hx0 : x0.toInt = a0) (ra0 : 0 ≤ a0 ∧ a0 ≤ 2) (pr0 : 0 ≤ σ 106 3 ∧ σ 106 3 ≤ 5) (pr1 : 0 ≤ σ 106 2 ∧ σ 106 2 ≤ 5) {Q : Option Value → h_S → Prop} (kk : ∀ (r : Int32) (b : Int) (hb : r.toInt = b), (0 ≤ b ∧ b ≤ 1) → (b = 1 → ¬ σ 106 0 = σ 106 3) → (b = 1 → ¬ σ 106 1 = σ 106 3) → (b = 1 → ¬ σ 106 2 = σ 106 3) → Q (some (.int r)) σ) : h_T g_P (g_Y ns) 196 0 [(0, .ref 98), (1, .int x0), (2, .int (Int32.ofInt 3))] [] σ Q := by
  refine h_iconst (pc' := 1) (x := (Int32.ofInt 0)) rfl rfl rfl ?_
  refine h_istore_n (pc' := 2) (M := [(3, .int (Int32.ofInt 0)), (0, .ref 98), (1, .int x0), (2, .int (Int32.ofInt 3))]) rfl rfl rfl rfl ?_
  refine h_iload_n (pc' := 3) rfl rfl rfl ?_
  refine h_iload_n (pc' := 4) rfl rfl rfl ?_
  refine h_cge (tg := 30) (pc' := 7) rfl rfl rfl ci_0 ci_3 (fun c1 => absurd c1 (by omega)) (fun c1 => ?_)
  refine h_aload_n (pc' := 8) rfl rfl rfl ?_
  refine h_getR (pc' := 11) rfl rfl rfl rfl rfl ?_
  refine h_iload_n (pc' := 12) rfl rfl rfl ?_
  refine h_iald (pc' := 13) (v := σ 106 0) rfl rfl rfl ci_0 (by omega) (by omega) rfl (fun z2 hz2 => ?_)
  have tz2 := ty_106 hI 0
  refine h_aload_n (pc' := 14) rfl rfl rfl ?_
  refine h_getR (pc' := 17) rfl rfl rfl rfl rfl ?_
  refine h_iload_n (pc' := 18) rfl rfl rfl ?_
  refine h_iald (pc' := 19) (v := σ 106 3) rfl rfl rfl ci_3 (by omega) (by omega) rfl (fun z3 hz3 => ?_)
  have tz3 := ty_106 hI 3
  refine h_cne (tg := 24) (pc' := 22) rfl rfl rfl hz2 hz3 (fun c4 => ?_) (fun c4 => ?_)
  · refine h_iinc (pc' := 27) (b := 1) (M := fun z5 => [(3, .int z5), (0, .ref 98), (1, .int x0), (2, .int (Int32.ofInt 3))]) rfl rfl rfl rfl ci_0 ci_1 rfl (by omega) (by omega) (fun _ => rfl) (fun z5 hz5 => ?_)
    refine h_goto (pc' := 2) rfl rfl ?_
    refine h_iload_n (pc' := 3) rfl rfl rfl ?_
    refine h_iload_n (pc' := 4) rfl rfl rfl ?_
    refine h_cge (tg := 30) (pc' := 7) rfl rfl rfl hz5 ci_3 (fun c6 => absurd c6 (by omega)) (fun c6 => ?_)
    refine h_aload_n (pc' := 8) rfl rfl rfl ?_
    refine h_getR (pc' := 11) rfl rfl rfl rfl rfl ?_
    refine h_iload_n (pc' := 12) rfl rfl rfl ?_
    refine h_iald (pc' := 13) (v := σ 106 1) rfl rfl rfl hz5 (by omega) (by omega) rfl (fun z7 hz7 => ?_)
    have tz7 := ty_106 hI 1
    refine h_aload_n (pc' := 14) rfl rfl rfl ?_
    refine h_getR (pc' := 17) rfl rfl rfl rfl rfl ?_
    refine h_iload_n (pc' := 18) rfl rfl rfl ?_
    refine h_iald (pc' := 19) (v := σ 106 3) rfl rfl rfl ci_3 (by omega) (by omega) rfl (fun z8 hz8 => ?_)
    have tz8 := ty_106 hI 3
    refine h_cne (tg := 24) (pc' := 22) rfl rfl rfl hz7 hz8 (fun c9 => ?_) (fun c9 => ?_)
    · refine h_iinc (pc' := 27) (b := 2) (M := fun z10 => [(3, .int z10), (0, .ref 98), (1, .int x0), (2, .int (Int32.ofInt 3))]) rfl rfl rfl rfl hz5 ci_1 rfl (by omega) (by omega) (fun _ => rfl) (fun z10 hz10 => ?_)
      refine h_goto (pc' := 2) rfl rfl ?_
      refine h_iload_n (pc' := 3) rfl rfl rfl ?_
      refine h_iload_n (pc' := 4) rfl rfl rfl ?_
      refine h_cge (tg := 30) (pc' := 7) rfl rfl rfl hz10 ci_3 (fun c11 => absurd c11 (by omega)) (fun c11 => ?_)
      refine h_aload_n (pc' := 8) rfl rfl rfl ?_
      refine h_getR (pc' := 11) rfl rfl rfl rfl rfl ?_
      refine h_iload_n (pc' := 12) rfl rfl rfl ?_
      refine h_iald (pc' := 13) (v := σ 106 2) rfl rfl rfl hz10 (by omega) (by omega) rfl (fun z12 hz12 => ?_)
      have tz12 := ty_106 hI 2
      refine h_aload_n (pc' := 14) rfl rfl rfl ?_
      refine h_getR (pc' := 17) rfl rfl rfl rfl rfl ?_
      refine h_iload_n (pc' := 18) rfl rfl rfl ?_
      refine h_iald (pc' := 19) (v := σ 106 3) rfl rfl rfl ci_3 (by omega) (by omega) rfl (fun z13 hz13 => ?_)
      have tz13 := ty_106 hI 3
      refine h_cne (tg := 24) (pc' := 22) rfl rfl rfl hz12 hz13 (fun c14 => ?_) (fun c14 => ?_)
      · refine h_iinc (pc' := 27) (b := 3) (M := fun z15 => [(3, .int z15), (0, .ref 98), (1, .int x0), (2, .int (Int32.ofInt 3))]) rfl rfl rfl rfl hz10 ci_1 rfl (by omega) (by omega) (fun _ => rfl) (fun z15 hz15 => ?_)
        refine h_goto (pc' := 2) rfl rfl ?_
        refine h_iload_n (pc' := 3) rfl rfl rfl ?_
        refine h_iload_n (pc' := 4) rfl rfl rfl ?_
        refine h_cge (tg := 30) (pc' := 7) rfl rfl rfl hz15 ci_3 (fun c16 => ?_) (fun c16 => absurd c16 (by omega))
        refine h_iload_n (pc' := 31) rfl rfl rfl ?_
        refine h_zne (tg := 49) (pc' := 34) rfl rfl rfl ci_3 (fun c17 => ?_) (fun c17 => absurd c17 (by omega))
        refine h_aload_n (pc' := 50) rfl rfl rfl ?_
        refine h_getR (pc' := 53) rfl rfl rfl rfl rfl ?_
        refine h_iload_n (pc' := 54) rfl rfl rfl ?_
        refine h_iconst (pc' := 55) (x := (Int32.ofInt 1)) rfl rfl rfl ?_
        refine h_isub (pc' := 56) (c := 2) rfl rfl ci_3 ci_1 rfl (by omega) (by omega) (fun z18 hz18 => ?_)
        refine h_iald (pc' := 57) (v := σ 106 2) rfl rfl rfl hz18 (by omega) (by omega) rfl (fun z19 hz19 => ?_)
        have tz19 := ty_106 hI 2
        refine h_istore_n (pc' := 58) (M := [(3, .int z19), (0, .ref 98), (1, .int x0), (2, .int (Int32.ofInt 3))]) rfl rfl rfl rfl ?_
        refine h_aload_n (pc' := 59) rfl rfl rfl ?_
        refine h_aload_n (pc' := 60) rfl rfl rfl ?_
        refine h_getR (pc' := 63) rfl rfl rfl rfl rfl ?_
        refine h_iload_n (pc' := 64) rfl rfl rfl ?_
        refine h_iald (pc' := 65) (v := σ 106 3) rfl rfl rfl ci_3 (by omega) (by omega) rfl (fun z20 hz20 => ?_)
        have tz20 := ty_106 hI 3
        refine h_iload_n (pc' := 66) rfl rfl rfl ?_
        refine h_aload_n (pc' := 67) rfl rfl rfl ?_
        refine h_getR (pc' := 70) rfl rfl rfl rfl rfl ?_
        refine h_bipush (pc' := 72) (x := (Int32.ofInt 26)) rfl rfl cb_26 ?_
        refine h_iload_n (pc' := 73) rfl rfl rfl ?_
        refine h_iadd (pc' := 74) rfl rfl ci_26 hx0 rfl (by omega) (by omega) (fun z21 hz21 => ?_)
        refine h_iald (pc' := 75) (v := σ 99 (26 + a0)) rfl rfl rfl hz21 (by omega) (by omega) rfl (fun z22 hz22 => ?_)
        have tz22 := ty_99_6 hI (26 + a0) (by omega)
        refine h_call (sp := false) (pc' := 78) (M := [(0, .ref 98), (1, .int z20), (2, .int z19), (3, .int z22)]) rfl rfl rfl rfl rfl rfl rfl rfl ?_
        refine v_mayGo _ hI z20 _ hz20 (by omega) z19 _ hz19 (by omega) z22 _ hz22 (fun r23 br23 hr23 tr23 => h_Kv ?_)
        exact h_zret rfl rfl hr23 (by omega) (kk _ _ hr23 (by omega) (by omega) (by omega) (by omega))
      · refine h_iconst (pc' := 23) (x := (Int32.ofInt 0)) rfl rfl rfl ?_
        exact h_zret rfl rfl ci_0 (by omega) (kk _ _ ci_0 (by omega) (by omega) (by omega) (by omega))
    · refine h_iconst (pc' := 23) (x := (Int32.ofInt 0)) rfl rfl rfl ?_
      exact h_zret rfl rfl ci_0 (by omega) (kk _ _ ci_0 (by omega) (by omega) (by omega) (by omega))
  · refine h_iconst (pc' := 23) (x := (Int32.ofInt 0)) rfl rfl rfl ?_
    exact h_zret rfl rfl ci_0 (by omega) (kk _ _ ci_0 (by omega) (by omega) (by omega) (by omega))
theorem v_stands4 {ns : Nat} (σ : h_S) (hI : h_I σ) (x0 : Int32) (a0 : Int) (hx0 : x0.toInt = a0) (ra0 : 0 ≤ a0 ∧ a0 ≤ 2) (pr0 : 0 ≤ σ 106 4 ∧ σ 106 4 ≤ 5) (pr1 : 0 ≤ σ 106 3 ∧ σ 106 3 ≤ 5) {Q : Option Value → h_S → Prop} (kk : ∀ (r : Int32) (b : Int) (hb : r.toInt = b), (0 ≤ b ∧ b ≤ 1) → (b = 1 → ¬ σ 106 0 = σ 106 4) → (b = 1 → ¬ σ 106 1 = σ 106 4) → (b = 1 → ¬ σ 106 2 = σ 106 4) → (b = 1 → ¬ σ 106 3 = σ 106 4) → Q (some (.int r)) σ) : h_T g_P (g_Y ns) 196 0 [(0, .ref 98), (1, .int x0), (2, .int (Int32.ofInt 4))] [] σ Q := by
  refine h_iconst (pc' := 1) (x := (Int32.ofInt 0)) rfl rfl rfl ?_
  refine h_istore_n (pc' := 2) (M := [(3, .int (Int32.ofInt 0)), (0, .ref 98), (1, .int x0), (2, .int (Int32.ofInt 4))]) rfl rfl rfl rfl ?_
  refine h_iload_n (pc' := 3) rfl rfl rfl ?_
  refine h_iload_n (pc' := 4) rfl rfl rfl ?_
  refine h_cge (tg := 30) (pc' := 7) rfl rfl rfl ci_0 ci_4 (fun c1 => absurd c1 (by omega)) (fun c1 => ?_)
  refine h_aload_n (pc' := 8) rfl rfl rfl ?_
  refine h_getR (pc' := 11) rfl rfl rfl rfl rfl ?_
  refine h_iload_n (pc' := 12) rfl rfl rfl ?_
  refine h_iald (pc' := 13) (v := σ 106 0) rfl rfl rfl ci_0 (by omega) (by omega) rfl (fun z2 hz2 => ?_)
  have tz2 := ty_106 hI 0
  refine h_aload_n (pc' := 14) rfl rfl rfl ?_
  refine h_getR (pc' := 17) rfl rfl rfl rfl rfl ?_
  refine h_iload_n (pc' := 18) rfl rfl rfl ?_
  refine h_iald (pc' := 19) (v := σ 106 4) rfl rfl rfl ci_4 (by omega) (by omega) rfl (fun z3 hz3 => ?_)
  have tz3 := ty_106 hI 4
  refine h_cne (tg := 24) (pc' := 22) rfl rfl rfl hz2 hz3 (fun c4 => ?_) (fun c4 => ?_)
  · refine h_iinc (pc' := 27) (b := 1) (M := fun z5 => [(3, .int z5), (0, .ref 98), (1, .int x0), (2, .int (Int32.ofInt 4))]) rfl rfl rfl rfl ci_0 ci_1 rfl (by omega) (by omega) (fun _ => rfl) (fun z5 hz5 => ?_)
    refine h_goto (pc' := 2) rfl rfl ?_
    refine h_iload_n (pc' := 3) rfl rfl rfl ?_
    refine h_iload_n (pc' := 4) rfl rfl rfl ?_
    refine h_cge (tg := 30) (pc' := 7) rfl rfl rfl hz5 ci_4 (fun c6 => absurd c6 (by omega)) (fun c6 => ?_)
    refine h_aload_n (pc' := 8) rfl rfl rfl ?_
    refine h_getR (pc' := 11) rfl rfl rfl rfl rfl ?_
    refine h_iload_n (pc' := 12) rfl rfl rfl ?_
    refine h_iald (pc' := 13) (v := σ 106 1) rfl rfl rfl hz5 (by omega) (by omega) rfl (fun z7 hz7 => ?_)
    have tz7 := ty_106 hI 1
    refine h_aload_n (pc' := 14) rfl rfl rfl ?_
    refine h_getR (pc' := 17) rfl rfl rfl rfl rfl ?_
    refine h_iload_n (pc' := 18) rfl rfl rfl ?_
    refine h_iald (pc' := 19) (v := σ 106 4) rfl rfl rfl ci_4 (by omega) (by omega) rfl (fun z8 hz8 => ?_)
    have tz8 := ty_106 hI 4
    refine h_cne (tg := 24) (pc' := 22) rfl rfl rfl hz7 hz8 (fun c9 => ?_) (fun c9 => ?_)
    · refine h_iinc (pc' := 27) (b := 2) (M := fun z10 => [(3, .int z10), (0, .ref 98), (1, .int x0), (2, .int (Int32.ofInt 4))]) rfl rfl rfl rfl hz5 ci_1 rfl (by omega) (by omega) (fun _ => rfl) (fun z10 hz10 => ?_)
      refine h_goto (pc' := 2) rfl rfl ?_
      refine h_iload_n (pc' := 3) rfl rfl rfl ?_
      refine h_iload_n (pc' := 4) rfl rfl rfl ?_
      refine h_cge (tg := 30) (pc' := 7) rfl rfl rfl hz10 ci_4 (fun c11 => absurd c11 (by omega)) (fun c11 => ?_)
      refine h_aload_n (pc' := 8) rfl rfl rfl ?_
      refine h_getR (pc' := 11) rfl rfl rfl rfl rfl ?_
      refine h_iload_n (pc' := 12) rfl rfl rfl ?_
      refine h_iald (pc' := 13) (v := σ 106 2) rfl rfl rfl hz10 (by omega) (by omega) rfl (fun z12 hz12 => ?_)
      have tz12 := ty_106 hI 2
      refine h_aload_n (pc' := 14) rfl rfl rfl ?_
      refine h_getR (pc' := 17) rfl rfl rfl rfl rfl ?_
      refine h_iload_n (pc' := 18) rfl rfl rfl ?_
      refine h_iald (pc' := 19) (v := σ 106 4) rfl rfl rfl ci_4 (by omega) (by omega) rfl (fun z13 hz13 => ?_)
      have tz13 := ty_106 hI 4
      refine h_cne (tg := 24) (pc' := 22) rfl rfl rfl hz12 hz13 (fun c14 => ?_) (fun c14 => ?_)
      · refine h_iinc (pc' := 27) (b := 3) (M := fun z15 => [(3, .int z15), (0, .ref 98), (1, .int x0), (2, .int (Int32.ofInt 4))]) rfl rfl rfl rfl hz10 ci_1 rfl (by omega) (by omega) (fun _ => rfl) (fun z15 hz15 => ?_)
        refine h_goto (pc' := 2) rfl rfl ?_
        refine h_iload_n (pc' := 3) rfl rfl rfl ?_
        refine h_iload_n (pc' := 4) rfl rfl rfl ?_
        refine h_cge (tg := 30) (pc' := 7) rfl rfl rfl hz15 ci_4 (fun c16 => absurd c16 (by omega)) (fun c16 => ?_)
        refine h_aload_n (pc' := 8) rfl rfl rfl ?_
        refine h_getR (pc' := 11) rfl rfl rfl rfl rfl ?_
        refine h_iload_n (pc' := 12) rfl rfl rfl ?_
        refine h_iald (pc' := 13) (v := σ 106 3) rfl rfl rfl hz15 (by omega) (by omega) rfl (fun z17 hz17 => ?_)
        have tz17 := ty_106 hI 3
        refine h_aload_n (pc' := 14) rfl rfl rfl ?_
        refine h_getR (pc' := 17) rfl rfl rfl rfl rfl ?_
        refine h_iload_n (pc' := 18) rfl rfl rfl ?_
        refine h_iald (pc' := 19) (v := σ 106 4) rfl rfl rfl ci_4 (by omega) (by omega) rfl (fun z18 hz18 => ?_)
        have tz18 := ty_106 hI 4
        refine h_cne (tg := 24) (pc' := 22) rfl rfl rfl hz17 hz18 (fun c19 => ?_) (fun c19 => ?_)
        · refine h_iinc (pc' := 27) (b := 4) (M := fun z20 => [(3, .int z20), (0, .ref 98), (1, .int x0), (2, .int (Int32.ofInt 4))]) rfl rfl rfl rfl hz15 ci_1 rfl (by omega) (by omega) (fun _ => rfl) (fun z20 hz20 => ?_)
          refine h_goto (pc' := 2) rfl rfl ?_
          refine h_iload_n (pc' := 3) rfl rfl rfl ?_
          refine h_iload_n (pc' := 4) rfl rfl rfl ?_
          refine h_cge (tg := 30) (pc' := 7) rfl rfl rfl hz20 ci_4 (fun c21 => ?_) (fun c21 => absurd c21 (by omega))
          refine h_iload_n (pc' := 31) rfl rfl rfl ?_
          refine h_zne (tg := 49) (pc' := 34) rfl rfl rfl ci_4 (fun c22 => ?_) (fun c22 => absurd c22 (by omega))
          refine h_aload_n (pc' := 50) rfl rfl rfl ?_
          refine h_getR (pc' := 53) rfl rfl rfl rfl rfl ?_
          refine h_iload_n (pc' := 54) rfl rfl rfl ?_
          refine h_iconst (pc' := 55) (x := (Int32.ofInt 1)) rfl rfl rfl ?_
          refine h_isub (pc' := 56) (c := 3) rfl rfl ci_4 ci_1 rfl (by omega) (by omega) (fun z23 hz23 => ?_)
          refine h_iald (pc' := 57) (v := σ 106 3) rfl rfl rfl hz23 (by omega) (by omega) rfl (fun z24 hz24 => ?_)
          have tz24 := ty_106 hI 3
          refine h_istore_n (pc' := 58) (M := [(3, .int z24), (0, .ref 98), (1, .int x0), (2, .int (Int32.ofInt 4))]) rfl rfl rfl rfl ?_
          refine h_aload_n (pc' := 59) rfl rfl rfl ?_
          refine h_aload_n (pc' := 60) rfl rfl rfl ?_
          refine h_getR (pc' := 63) rfl rfl rfl rfl rfl ?_
          refine h_iload_n (pc' := 64) rfl rfl rfl ?_
          refine h_iald (pc' := 65) (v := σ 106 4) rfl rfl rfl ci_4 (by omega) (by omega) rfl (fun z25 hz25 => ?_)
          have tz25 := ty_106 hI 4
          refine h_iload_n (pc' := 66) rfl rfl rfl ?_
          refine h_aload_n (pc' := 67) rfl rfl rfl ?_
          refine h_getR (pc' := 70) rfl rfl rfl rfl rfl ?_
          refine h_bipush (pc' := 72) (x := (Int32.ofInt 26)) rfl rfl cb_26 ?_
          refine h_iload_n (pc' := 73) rfl rfl rfl ?_
          refine h_iadd (pc' := 74) rfl rfl ci_26 hx0 rfl (by omega) (by omega) (fun z26 hz26 => ?_)
          refine h_iald (pc' := 75) (v := σ 99 (26 + a0)) rfl rfl rfl hz26 (by omega) (by omega) rfl (fun z27 hz27 => ?_)
          have tz27 := ty_99_6 hI (26 + a0) (by omega)
          refine h_call (sp := false) (pc' := 78) (M := [(0, .ref 98), (1, .int z25), (2, .int z24), (3, .int z27)]) rfl rfl rfl rfl rfl rfl rfl rfl ?_
          refine v_mayGo _ hI z25 _ hz25 (by omega) z24 _ hz24 (by omega) z27 _ hz27 (fun r28 br28 hr28 tr28 => h_Kv ?_)
          exact h_zret rfl rfl hr28 (by omega) (kk _ _ hr28 (by omega) (by omega) (by omega) (by omega) (by omega))
        · refine h_iconst (pc' := 23) (x := (Int32.ofInt 0)) rfl rfl rfl ?_
          exact h_zret rfl rfl ci_0 (by omega) (kk _ _ ci_0 (by omega) (by omega) (by omega) (by omega) (by omega))
      · refine h_iconst (pc' := 23) (x := (Int32.ofInt 0)) rfl rfl rfl ?_
        exact h_zret rfl rfl ci_0 (by omega) (kk _ _ ci_0 (by omega) (by omega) (by omega) (by omega) (by omega))
    · refine h_iconst (pc' := 23) (x := (Int32.ofInt 0)) rfl rfl rfl ?_
      exact h_zret rfl rfl ci_0 (by omega) (kk _ _ ci_0 (by omega) (by omega) (by omega) (by omega) (by omega))
  · refine h_iconst (pc' := 23) (x := (Int32.ofInt 0)) rfl rfl rfl ?_
    exact h_zret rfl rfl ci_0 (by omega) (kk _ _ ci_0 (by omega) (by omega) (by omega) (by omega) (by omega))
theorem v_stands5 {ns : Nat} (σ : h_S) (hI : h_I σ) (x0 : Int32) (a0 : Int) (hx0 : x0.toInt = a0) (ra0 : 0 ≤ a0 ∧ a0 ≤ 2) (pr0 : 0 ≤ σ 106 5 ∧ σ 106 5 ≤ 5) (pr1 : 0 ≤ σ 106 4 ∧ σ 106 4 ≤ 5) {Q : Option Value → h_S → Prop} (kk : ∀ (r : Int32) (b : Int) (hb : r.toInt = b), (0 ≤ b ∧ b ≤ 1) → (b = 1 → ¬ σ 106 0 = σ 106 5) → (b = 1 → ¬ σ 106 1 = σ 106 5) → (b = 1 → ¬ σ 106 2 = σ 106 5) → (b = 1 → ¬ σ 106 3 = σ 106 5) → (b = 1 → ¬ σ 106 4 = σ 106 5) → Q (some (.int r)) σ) : h_T g_P (g_Y ns) 196 0 [(0, .ref 98), (1, .int x0), (2, .int (Int32.ofInt 5))] [] σ Q := by
  refine h_iconst (pc' := 1) (x := (Int32.ofInt 0)) rfl rfl rfl ?_
  refine h_istore_n (pc' := 2) (M := [(3, .int (Int32.ofInt 0)), (0, .ref 98), (1, .int x0), (2, .int (Int32.ofInt 5))]) rfl rfl rfl rfl ?_
  refine h_iload_n (pc' := 3) rfl rfl rfl ?_
  refine h_iload_n (pc' := 4) rfl rfl rfl ?_
  refine h_cge (tg := 30) (pc' := 7) rfl rfl rfl ci_0 ci_5 (fun c1 => absurd c1 (by omega)) (fun c1 => ?_)
  refine h_aload_n (pc' := 8) rfl rfl rfl ?_
  refine h_getR (pc' := 11) rfl rfl rfl rfl rfl ?_
  refine h_iload_n (pc' := 12) rfl rfl rfl ?_
  refine h_iald (pc' := 13) (v := σ 106 0) rfl rfl rfl ci_0 (by omega) (by omega) rfl (fun z2 hz2 => ?_)
  have tz2 := ty_106 hI 0
  refine h_aload_n (pc' := 14) rfl rfl rfl ?_
  refine h_getR (pc' := 17) rfl rfl rfl rfl rfl ?_
  refine h_iload_n (pc' := 18) rfl rfl rfl ?_
  refine h_iald (pc' := 19) (v := σ 106 5) rfl rfl rfl ci_5 (by omega) (by omega) rfl (fun z3 hz3 => ?_)
  have tz3 := ty_106 hI 5
  refine h_cne (tg := 24) (pc' := 22) rfl rfl rfl hz2 hz3 (fun c4 => ?_) (fun c4 => ?_)
  · refine h_iinc (pc' := 27) (b := 1) (M := fun z5 => [(3, .int z5), (0, .ref 98), (1, .int x0), (2, .int (Int32.ofInt 5))]) rfl rfl rfl rfl ci_0 ci_1 rfl (by omega) (by omega) (fun _ => rfl) (fun z5 hz5 => ?_)
    refine h_goto (pc' := 2) rfl rfl ?_
    refine h_iload_n (pc' := 3) rfl rfl rfl ?_
    refine h_iload_n (pc' := 4) rfl rfl rfl ?_
    refine h_cge (tg := 30) (pc' := 7) rfl rfl rfl hz5 ci_5 (fun c6 => absurd c6 (by omega)) (fun c6 => ?_)
    refine h_aload_n (pc' := 8) rfl rfl rfl ?_
    refine h_getR (pc' := 11) rfl rfl rfl rfl rfl ?_
    refine h_iload_n (pc' := 12) rfl rfl rfl ?_
    refine h_iald (pc' := 13) (v := σ 106 1) rfl rfl rfl hz5 (by omega) (by omega) rfl (fun z7 hz7 => ?_)
    have tz7 := ty_106 hI 1
    refine h_aload_n (pc' := 14) rfl rfl rfl ?_
    refine h_getR (pc' := 17) rfl rfl rfl rfl rfl ?_
    refine h_iload_n (pc' := 18) rfl rfl rfl ?_
    refine h_iald (pc' := 19) (v := σ 106 5) rfl rfl rfl ci_5 (by omega) (by omega) rfl (fun z8 hz8 => ?_)
    have tz8 := ty_106 hI 5
    refine h_cne (tg := 24) (pc' := 22) rfl rfl rfl hz7 hz8 (fun c9 => ?_) (fun c9 => ?_)
    · refine h_iinc (pc' := 27) (b := 2) (M := fun z10 => [(3, .int z10), (0, .ref 98), (1, .int x0), (2, .int (Int32.ofInt 5))]) rfl rfl rfl rfl hz5 ci_1 rfl (by omega) (by omega) (fun _ => rfl) (fun z10 hz10 => ?_)
      refine h_goto (pc' := 2) rfl rfl ?_
      refine h_iload_n (pc' := 3) rfl rfl rfl ?_
      refine h_iload_n (pc' := 4) rfl rfl rfl ?_
      refine h_cge (tg := 30) (pc' := 7) rfl rfl rfl hz10 ci_5 (fun c11 => absurd c11 (by omega)) (fun c11 => ?_)
      refine h_aload_n (pc' := 8) rfl rfl rfl ?_
      refine h_getR (pc' := 11) rfl rfl rfl rfl rfl ?_
      refine h_iload_n (pc' := 12) rfl rfl rfl ?_
      refine h_iald (pc' := 13) (v := σ 106 2) rfl rfl rfl hz10 (by omega) (by omega) rfl (fun z12 hz12 => ?_)
      have tz12 := ty_106 hI 2
      refine h_aload_n (pc' := 14) rfl rfl rfl ?_
      refine h_getR (pc' := 17) rfl rfl rfl rfl rfl ?_
      refine h_iload_n (pc' := 18) rfl rfl rfl ?_
      refine h_iald (pc' := 19) (v := σ 106 5) rfl rfl rfl ci_5 (by omega) (by omega) rfl (fun z13 hz13 => ?_)
      have tz13 := ty_106 hI 5
      refine h_cne (tg := 24) (pc' := 22) rfl rfl rfl hz12 hz13 (fun c14 => ?_) (fun c14 => ?_)
      · refine h_iinc (pc' := 27) (b := 3) (M := fun z15 => [(3, .int z15), (0, .ref 98), (1, .int x0), (2, .int (Int32.ofInt 5))]) rfl rfl rfl rfl hz10 ci_1 rfl (by omega) (by omega) (fun _ => rfl) (fun z15 hz15 => ?_)
        refine h_goto (pc' := 2) rfl rfl ?_
        refine h_iload_n (pc' := 3) rfl rfl rfl ?_
        refine h_iload_n (pc' := 4) rfl rfl rfl ?_
        refine h_cge (tg := 30) (pc' := 7) rfl rfl rfl hz15 ci_5 (fun c16 => absurd c16 (by omega)) (fun c16 => ?_)
        refine h_aload_n (pc' := 8) rfl rfl rfl ?_
        refine h_getR (pc' := 11) rfl rfl rfl rfl rfl ?_
        refine h_iload_n (pc' := 12) rfl rfl rfl ?_
        refine h_iald (pc' := 13) (v := σ 106 3) rfl rfl rfl hz15 (by omega) (by omega) rfl (fun z17 hz17 => ?_)
        have tz17 := ty_106 hI 3
        refine h_aload_n (pc' := 14) rfl rfl rfl ?_
        refine h_getR (pc' := 17) rfl rfl rfl rfl rfl ?_
        refine h_iload_n (pc' := 18) rfl rfl rfl ?_
        refine h_iald (pc' := 19) (v := σ 106 5) rfl rfl rfl ci_5 (by omega) (by omega) rfl (fun z18 hz18 => ?_)
        have tz18 := ty_106 hI 5
        refine h_cne (tg := 24) (pc' := 22) rfl rfl rfl hz17 hz18 (fun c19 => ?_) (fun c19 => ?_)
        · refine h_iinc (pc' := 27) (b := 4) (M := fun z20 => [(3, .int z20), (0, .ref 98), (1, .int x0), (2, .int (Int32.ofInt 5))]) rfl rfl rfl rfl hz15 ci_1 rfl (by omega) (by omega) (fun _ => rfl) (fun z20 hz20 => ?_)
          refine h_goto (pc' := 2) rfl rfl ?_
          refine h_iload_n (pc' := 3) rfl rfl rfl ?_
          refine h_iload_n (pc' := 4) rfl rfl rfl ?_
          refine h_cge (tg := 30) (pc' := 7) rfl rfl rfl hz20 ci_5 (fun c21 => absurd c21 (by omega)) (fun c21 => ?_)
          refine h_aload_n (pc' := 8) rfl rfl rfl ?_
          refine h_getR (pc' := 11) rfl rfl rfl rfl rfl ?_
          refine h_iload_n (pc' := 12) rfl rfl rfl ?_
          refine h_iald (pc' := 13) (v := σ 106 4) rfl rfl rfl hz20 (by omega) (by omega) rfl (fun z22 hz22 => ?_)
          have tz22 := ty_106 hI 4
          refine h_aload_n (pc' := 14) rfl rfl rfl ?_
          refine h_getR (pc' := 17) rfl rfl rfl rfl rfl ?_
          refine h_iload_n (pc' := 18) rfl rfl rfl ?_
          refine h_iald (pc' := 19) (v := σ 106 5) rfl rfl rfl ci_5 (by omega) (by omega) rfl (fun z23 hz23 => ?_)
          have tz23 := ty_106 hI 5
          refine h_cne (tg := 24) (pc' := 22) rfl rfl rfl hz22 hz23 (fun c24 => ?_) (fun c24 => ?_)
          · refine h_iinc (pc' := 27) (b := 5) (M := fun z25 => [(3, .int z25), (0, .ref 98), (1, .int x0), (2, .int (Int32.ofInt 5))]) rfl rfl rfl rfl hz20 ci_1 rfl (by omega) (by omega) (fun _ => rfl) (fun z25 hz25 => ?_)
            refine h_goto (pc' := 2) rfl rfl ?_
            refine h_iload_n (pc' := 3) rfl rfl rfl ?_
            refine h_iload_n (pc' := 4) rfl rfl rfl ?_
            refine h_cge (tg := 30) (pc' := 7) rfl rfl rfl hz25 ci_5 (fun c26 => ?_) (fun c26 => absurd c26 (by omega))
            refine h_iload_n (pc' := 31) rfl rfl rfl ?_
            refine h_zne (tg := 49) (pc' := 34) rfl rfl rfl ci_5 (fun c27 => ?_) (fun c27 => absurd c27 (by omega))
            refine h_aload_n (pc' := 50) rfl rfl rfl ?_
            refine h_getR (pc' := 53) rfl rfl rfl rfl rfl ?_
            refine h_iload_n (pc' := 54) rfl rfl rfl ?_
            refine h_iconst (pc' := 55) (x := (Int32.ofInt 1)) rfl rfl rfl ?_
            refine h_isub (pc' := 56) (c := 4) rfl rfl ci_5 ci_1 rfl (by omega) (by omega) (fun z28 hz28 => ?_)
            refine h_iald (pc' := 57) (v := σ 106 4) rfl rfl rfl hz28 (by omega) (by omega) rfl (fun z29 hz29 => ?_)
            have tz29 := ty_106 hI 4
            refine h_istore_n (pc' := 58) (M := [(3, .int z29), (0, .ref 98), (1, .int x0), (2, .int (Int32.ofInt 5))]) rfl rfl rfl rfl ?_
            refine h_aload_n (pc' := 59) rfl rfl rfl ?_
            refine h_aload_n (pc' := 60) rfl rfl rfl ?_
            refine h_getR (pc' := 63) rfl rfl rfl rfl rfl ?_
            refine h_iload_n (pc' := 64) rfl rfl rfl ?_
            refine h_iald (pc' := 65) (v := σ 106 5) rfl rfl rfl ci_5 (by omega) (by omega) rfl (fun z30 hz30 => ?_)
            have tz30 := ty_106 hI 5
            refine h_iload_n (pc' := 66) rfl rfl rfl ?_
            refine h_aload_n (pc' := 67) rfl rfl rfl ?_
            refine h_getR (pc' := 70) rfl rfl rfl rfl rfl ?_
            refine h_bipush (pc' := 72) (x := (Int32.ofInt 26)) rfl rfl cb_26 ?_
            refine h_iload_n (pc' := 73) rfl rfl rfl ?_
            refine h_iadd (pc' := 74) rfl rfl ci_26 hx0 rfl (by omega) (by omega) (fun z31 hz31 => ?_)
            refine h_iald (pc' := 75) (v := σ 99 (26 + a0)) rfl rfl rfl hz31 (by omega) (by omega) rfl (fun z32 hz32 => ?_)
            have tz32 := ty_99_6 hI (26 + a0) (by omega)
            refine h_call (sp := false) (pc' := 78) (M := [(0, .ref 98), (1, .int z30), (2, .int z29), (3, .int z32)]) rfl rfl rfl rfl rfl rfl rfl rfl ?_
            refine v_mayGo _ hI z30 _ hz30 (by omega) z29 _ hz29 (by omega) z32 _ hz32 (fun r33 br33 hr33 tr33 => h_Kv ?_)
            exact h_zret rfl rfl hr33 (by omega) (kk _ _ hr33 (by omega) (by omega) (by omega) (by omega) (by omega) (by omega))
          · refine h_iconst (pc' := 23) (x := (Int32.ofInt 0)) rfl rfl rfl ?_
            exact h_zret rfl rfl ci_0 (by omega) (kk _ _ ci_0 (by omega) (by omega) (by omega) (by omega) (by omega) (by omega))
        · refine h_iconst (pc' := 23) (x := (Int32.ofInt 0)) rfl rfl rfl ?_
          exact h_zret rfl rfl ci_0 (by omega) (kk _ _ ci_0 (by omega) (by omega) (by omega) (by omega) (by omega) (by omega))
      · refine h_iconst (pc' := 23) (x := (Int32.ofInt 0)) rfl rfl rfl ?_
        exact h_zret rfl rfl ci_0 (by omega) (kk _ _ ci_0 (by omega) (by omega) (by omega) (by omega) (by omega) (by omega))
    · refine h_iconst (pc' := 23) (x := (Int32.ofInt 0)) rfl rfl rfl ?_
      exact h_zret rfl rfl ci_0 (by omega) (kk _ _ ci_0 (by omega) (by omega) (by omega) (by omega) (by omega) (by omega))
  · refine h_iconst (pc' := 23) (x := (Int32.ofInt 0)) rfl rfl rfl ?_
    exact h_zret rfl rfl ci_0 (by omega) (kk _ _ ci_0 (by omega) (by omega) (by omega) (by omega) (by omega) (by omega))
theorem v_stands6 {ns : Nat} (σ : h_S) (hI : h_I σ) (x0 : Int32) (a0 : Int) (hx0 : x0.toInt = a0) (ra0 : 0 ≤ a0 ∧ a0 ≤ 2) (pr0 : 0 ≤ σ 106 6 ∧ σ 106 6 ≤ 5) (pr1 : 0 ≤ σ 106 5 ∧ σ 106 5 ≤ 5) {Q : Option Value → h_S → Prop} (kk : ∀ (r : Int32) (b : Int) (hb : r.toInt = b), (0 ≤ b ∧ b ≤ 1) → (b = 1 → ¬ σ 106 0 = σ 106 6) → (b = 1 → ¬ σ 106 1 = σ 106 6) → (b = 1 → ¬ σ 106 2 = σ 106 6) → (b = 1 → ¬ σ 106 3 = σ 106 6) → (b = 1 → ¬ σ 106 4 = σ 106 6) → (b = 1 → ¬ σ 106 5 = σ 106 6) → Q (some (.int r)) σ) : h_T g_P (g_Y ns) 196 0 [(0, .ref 98), (1, .int x0), (2, .int (Int32.ofInt 6))] [] σ Q := by
  refine h_iconst (pc' := 1) (x := (Int32.ofInt 0)) rfl rfl rfl ?_
  refine h_istore_n (pc' := 2) (M := [(3, .int (Int32.ofInt 0)), (0, .ref 98), (1, .int x0), (2, .int (Int32.ofInt 6))]) rfl rfl rfl rfl ?_
  refine h_iload_n (pc' := 3) rfl rfl rfl ?_
  refine h_iload_n (pc' := 4) rfl rfl rfl ?_
  refine h_cge (tg := 30) (pc' := 7) rfl rfl rfl ci_0 ci_6 (fun c1 => absurd c1 (by omega)) (fun c1 => ?_)
  refine h_aload_n (pc' := 8) rfl rfl rfl ?_
  refine h_getR (pc' := 11) rfl rfl rfl rfl rfl ?_
  refine h_iload_n (pc' := 12) rfl rfl rfl ?_
  refine h_iald (pc' := 13) (v := σ 106 0) rfl rfl rfl ci_0 (by omega) (by omega) rfl (fun z2 hz2 => ?_)
  have tz2 := ty_106 hI 0
  refine h_aload_n (pc' := 14) rfl rfl rfl ?_
  refine h_getR (pc' := 17) rfl rfl rfl rfl rfl ?_
  refine h_iload_n (pc' := 18) rfl rfl rfl ?_
  refine h_iald (pc' := 19) (v := σ 106 6) rfl rfl rfl ci_6 (by omega) (by omega) rfl (fun z3 hz3 => ?_)
  have tz3 := ty_106 hI 6
  refine h_cne (tg := 24) (pc' := 22) rfl rfl rfl hz2 hz3 (fun c4 => ?_) (fun c4 => ?_)
  · refine h_iinc (pc' := 27) (b := 1) (M := fun z5 => [(3, .int z5), (0, .ref 98), (1, .int x0), (2, .int (Int32.ofInt 6))]) rfl rfl rfl rfl ci_0 ci_1 rfl (by omega) (by omega) (fun _ => rfl) (fun z5 hz5 => ?_)
    refine h_goto (pc' := 2) rfl rfl ?_
    refine h_iload_n (pc' := 3) rfl rfl rfl ?_
    refine h_iload_n (pc' := 4) rfl rfl rfl ?_
    refine h_cge (tg := 30) (pc' := 7) rfl rfl rfl hz5 ci_6 (fun c6 => absurd c6 (by omega)) (fun c6 => ?_)
    refine h_aload_n (pc' := 8) rfl rfl rfl ?_
    refine h_getR (pc' := 11) rfl rfl rfl rfl rfl ?_
    refine h_iload_n (pc' := 12) rfl rfl rfl ?_
    refine h_iald (pc' := 13) (v := σ 106 1) rfl rfl rfl hz5 (by omega) (by omega) rfl (fun z7 hz7 => ?_)
    have tz7 := ty_106 hI 1
    refine h_aload_n (pc' := 14) rfl rfl rfl ?_
    refine h_getR (pc' := 17) rfl rfl rfl rfl rfl ?_
    refine h_iload_n (pc' := 18) rfl rfl rfl ?_
    refine h_iald (pc' := 19) (v := σ 106 6) rfl rfl rfl ci_6 (by omega) (by omega) rfl (fun z8 hz8 => ?_)
    have tz8 := ty_106 hI 6
    refine h_cne (tg := 24) (pc' := 22) rfl rfl rfl hz7 hz8 (fun c9 => ?_) (fun c9 => ?_)
    · refine h_iinc (pc' := 27) (b := 2) (M := fun z10 => [(3, .int z10), (0, .ref 98), (1, .int x0), (2, .int (Int32.ofInt 6))]) rfl rfl rfl rfl hz5 ci_1 rfl (by omega) (by omega) (fun _ => rfl) (fun z10 hz10 => ?_)
      refine h_goto (pc' := 2) rfl rfl ?_
      refine h_iload_n (pc' := 3) rfl rfl rfl ?_
      refine h_iload_n (pc' := 4) rfl rfl rfl ?_
      refine h_cge (tg := 30) (pc' := 7) rfl rfl rfl hz10 ci_6 (fun c11 => absurd c11 (by omega)) (fun c11 => ?_)
      refine h_aload_n (pc' := 8) rfl rfl rfl ?_
      refine h_getR (pc' := 11) rfl rfl rfl rfl rfl ?_
      refine h_iload_n (pc' := 12) rfl rfl rfl ?_
      refine h_iald (pc' := 13) (v := σ 106 2) rfl rfl rfl hz10 (by omega) (by omega) rfl (fun z12 hz12 => ?_)
      have tz12 := ty_106 hI 2
      refine h_aload_n (pc' := 14) rfl rfl rfl ?_
      refine h_getR (pc' := 17) rfl rfl rfl rfl rfl ?_
      refine h_iload_n (pc' := 18) rfl rfl rfl ?_
      refine h_iald (pc' := 19) (v := σ 106 6) rfl rfl rfl ci_6 (by omega) (by omega) rfl (fun z13 hz13 => ?_)
      have tz13 := ty_106 hI 6
      refine h_cne (tg := 24) (pc' := 22) rfl rfl rfl hz12 hz13 (fun c14 => ?_) (fun c14 => ?_)
      · refine h_iinc (pc' := 27) (b := 3) (M := fun z15 => [(3, .int z15), (0, .ref 98), (1, .int x0), (2, .int (Int32.ofInt 6))]) rfl rfl rfl rfl hz10 ci_1 rfl (by omega) (by omega) (fun _ => rfl) (fun z15 hz15 => ?_)
        refine h_goto (pc' := 2) rfl rfl ?_
        refine h_iload_n (pc' := 3) rfl rfl rfl ?_
        refine h_iload_n (pc' := 4) rfl rfl rfl ?_
        refine h_cge (tg := 30) (pc' := 7) rfl rfl rfl hz15 ci_6 (fun c16 => absurd c16 (by omega)) (fun c16 => ?_)
        refine h_aload_n (pc' := 8) rfl rfl rfl ?_
        refine h_getR (pc' := 11) rfl rfl rfl rfl rfl ?_
        refine h_iload_n (pc' := 12) rfl rfl rfl ?_
        refine h_iald (pc' := 13) (v := σ 106 3) rfl rfl rfl hz15 (by omega) (by omega) rfl (fun z17 hz17 => ?_)
        have tz17 := ty_106 hI 3
        refine h_aload_n (pc' := 14) rfl rfl rfl ?_
        refine h_getR (pc' := 17) rfl rfl rfl rfl rfl ?_
        refine h_iload_n (pc' := 18) rfl rfl rfl ?_
        refine h_iald (pc' := 19) (v := σ 106 6) rfl rfl rfl ci_6 (by omega) (by omega) rfl (fun z18 hz18 => ?_)
        have tz18 := ty_106 hI 6
        refine h_cne (tg := 24) (pc' := 22) rfl rfl rfl hz17 hz18 (fun c19 => ?_) (fun c19 => ?_)
        · refine h_iinc (pc' := 27) (b := 4) (M := fun z20 => [(3, .int z20), (0, .ref 98), (1, .int x0), (2, .int (Int32.ofInt 6))]) rfl rfl rfl rfl hz15 ci_1 rfl (by omega) (by omega) (fun _ => rfl) (fun z20 hz20 => ?_)
          refine h_goto (pc' := 2) rfl rfl ?_
          refine h_iload_n (pc' := 3) rfl rfl rfl ?_
          refine h_iload_n (pc' := 4) rfl rfl rfl ?_
          refine h_cge (tg := 30) (pc' := 7) rfl rfl rfl hz20 ci_6 (fun c21 => absurd c21 (by omega)) (fun c21 => ?_)
          refine h_aload_n (pc' := 8) rfl rfl rfl ?_
          refine h_getR (pc' := 11) rfl rfl rfl rfl rfl ?_
          refine h_iload_n (pc' := 12) rfl rfl rfl ?_
          refine h_iald (pc' := 13) (v := σ 106 4) rfl rfl rfl hz20 (by omega) (by omega) rfl (fun z22 hz22 => ?_)
          have tz22 := ty_106 hI 4
          refine h_aload_n (pc' := 14) rfl rfl rfl ?_
          refine h_getR (pc' := 17) rfl rfl rfl rfl rfl ?_
          refine h_iload_n (pc' := 18) rfl rfl rfl ?_
          refine h_iald (pc' := 19) (v := σ 106 6) rfl rfl rfl ci_6 (by omega) (by omega) rfl (fun z23 hz23 => ?_)
          have tz23 := ty_106 hI 6
          refine h_cne (tg := 24) (pc' := 22) rfl rfl rfl hz22 hz23 (fun c24 => ?_) (fun c24 => ?_)
          · refine h_iinc (pc' := 27) (b := 5) (M := fun z25 => [(3, .int z25), (0, .ref 98), (1, .int x0), (2, .int (Int32.ofInt 6))]) rfl rfl rfl rfl hz20 ci_1 rfl (by omega) (by omega) (fun _ => rfl) (fun z25 hz25 => ?_)
            refine h_goto (pc' := 2) rfl rfl ?_
            refine h_iload_n (pc' := 3) rfl rfl rfl ?_
            refine h_iload_n (pc' := 4) rfl rfl rfl ?_
            refine h_cge (tg := 30) (pc' := 7) rfl rfl rfl hz25 ci_6 (fun c26 => absurd c26 (by omega)) (fun c26 => ?_)
            refine h_aload_n (pc' := 8) rfl rfl rfl ?_
            refine h_getR (pc' := 11) rfl rfl rfl rfl rfl ?_
            refine h_iload_n (pc' := 12) rfl rfl rfl ?_
            refine h_iald (pc' := 13) (v := σ 106 5) rfl rfl rfl hz25 (by omega) (by omega) rfl (fun z27 hz27 => ?_)
            have tz27 := ty_106 hI 5
            refine h_aload_n (pc' := 14) rfl rfl rfl ?_
            refine h_getR (pc' := 17) rfl rfl rfl rfl rfl ?_
            refine h_iload_n (pc' := 18) rfl rfl rfl ?_
            refine h_iald (pc' := 19) (v := σ 106 6) rfl rfl rfl ci_6 (by omega) (by omega) rfl (fun z28 hz28 => ?_)
            have tz28 := ty_106 hI 6
            refine h_cne (tg := 24) (pc' := 22) rfl rfl rfl hz27 hz28 (fun c29 => ?_) (fun c29 => ?_)
            · refine h_iinc (pc' := 27) (b := 6) (M := fun z30 => [(3, .int z30), (0, .ref 98), (1, .int x0), (2, .int (Int32.ofInt 6))]) rfl rfl rfl rfl hz25 ci_1 rfl (by omega) (by omega) (fun _ => rfl) (fun z30 hz30 => ?_)
              refine h_goto (pc' := 2) rfl rfl ?_
              refine h_iload_n (pc' := 3) rfl rfl rfl ?_
              refine h_iload_n (pc' := 4) rfl rfl rfl ?_
              refine h_cge (tg := 30) (pc' := 7) rfl rfl rfl hz30 ci_6 (fun c31 => ?_) (fun c31 => absurd c31 (by omega))
              refine h_iload_n (pc' := 31) rfl rfl rfl ?_
              refine h_zne (tg := 49) (pc' := 34) rfl rfl rfl ci_6 (fun c32 => ?_) (fun c32 => absurd c32 (by omega))
              refine h_aload_n (pc' := 50) rfl rfl rfl ?_
              refine h_getR (pc' := 53) rfl rfl rfl rfl rfl ?_
              refine h_iload_n (pc' := 54) rfl rfl rfl ?_
              refine h_iconst (pc' := 55) (x := (Int32.ofInt 1)) rfl rfl rfl ?_
              refine h_isub (pc' := 56) (c := 5) rfl rfl ci_6 ci_1 rfl (by omega) (by omega) (fun z33 hz33 => ?_)
              refine h_iald (pc' := 57) (v := σ 106 5) rfl rfl rfl hz33 (by omega) (by omega) rfl (fun z34 hz34 => ?_)
              have tz34 := ty_106 hI 5
              refine h_istore_n (pc' := 58) (M := [(3, .int z34), (0, .ref 98), (1, .int x0), (2, .int (Int32.ofInt 6))]) rfl rfl rfl rfl ?_
              refine h_aload_n (pc' := 59) rfl rfl rfl ?_
              refine h_aload_n (pc' := 60) rfl rfl rfl ?_
              refine h_getR (pc' := 63) rfl rfl rfl rfl rfl ?_
              refine h_iload_n (pc' := 64) rfl rfl rfl ?_
              refine h_iald (pc' := 65) (v := σ 106 6) rfl rfl rfl ci_6 (by omega) (by omega) rfl (fun z35 hz35 => ?_)
              have tz35 := ty_106 hI 6
              refine h_iload_n (pc' := 66) rfl rfl rfl ?_
              refine h_aload_n (pc' := 67) rfl rfl rfl ?_
              refine h_getR (pc' := 70) rfl rfl rfl rfl rfl ?_
              refine h_bipush (pc' := 72) (x := (Int32.ofInt 26)) rfl rfl cb_26 ?_
              refine h_iload_n (pc' := 73) rfl rfl rfl ?_
              refine h_iadd (pc' := 74) rfl rfl ci_26 hx0 rfl (by omega) (by omega) (fun z36 hz36 => ?_)
              refine h_iald (pc' := 75) (v := σ 99 (26 + a0)) rfl rfl rfl hz36 (by omega) (by omega) rfl (fun z37 hz37 => ?_)
              have tz37 := ty_99_6 hI (26 + a0) (by omega)
              refine h_call (sp := false) (pc' := 78) (M := [(0, .ref 98), (1, .int z35), (2, .int z34), (3, .int z37)]) rfl rfl rfl rfl rfl rfl rfl rfl ?_
              refine v_mayGo _ hI z35 _ hz35 (by omega) z34 _ hz34 (by omega) z37 _ hz37 (fun r38 br38 hr38 tr38 => h_Kv ?_)
              exact h_zret rfl rfl hr38 (by omega) (kk _ _ hr38 (by omega) (by omega) (by omega) (by omega) (by omega) (by omega) (by omega))
            · refine h_iconst (pc' := 23) (x := (Int32.ofInt 0)) rfl rfl rfl ?_
              exact h_zret rfl rfl ci_0 (by omega) (kk _ _ ci_0 (by omega) (by omega) (by omega) (by omega) (by omega) (by omega) (by omega))
          · refine h_iconst (pc' := 23) (x := (Int32.ofInt 0)) rfl rfl rfl ?_
            exact h_zret rfl rfl ci_0 (by omega) (kk _ _ ci_0 (by omega) (by omega) (by omega) (by omega) (by omega) (by omega) (by omega))
        · refine h_iconst (pc' := 23) (x := (Int32.ofInt 0)) rfl rfl rfl ?_
          exact h_zret rfl rfl ci_0 (by omega) (kk _ _ ci_0 (by omega) (by omega) (by omega) (by omega) (by omega) (by omega) (by omega))
      · refine h_iconst (pc' := 23) (x := (Int32.ofInt 0)) rfl rfl rfl ?_
        exact h_zret rfl rfl ci_0 (by omega) (kk _ _ ci_0 (by omega) (by omega) (by omega) (by omega) (by omega) (by omega) (by omega))
    · refine h_iconst (pc' := 23) (x := (Int32.ofInt 0)) rfl rfl rfl ?_
      exact h_zret rfl rfl ci_0 (by omega) (kk _ _ ci_0 (by omega) (by omega) (by omega) (by omega) (by omega) (by omega) (by omega))
  · refine h_iconst (pc' := 23) (x := (Int32.ofInt 0)) rfl rfl rfl ?_
    exact h_zret rfl rfl ci_0 (by omega) (kk _ _ ci_0 (by omega) (by omega) (by omega) (by omega) (by omega) (by omega) (by omega))
def kf_v_keepsRow : List Nat := [100378, 110591]
theorem v_keepsRow_l (ns : Nat) (σ : h_S) (hI : h_I σ) (x0 : Int32) (a0 : Int) (hx0 : x0.toInt = a0) (ra0 : 0 ≤ a0 ∧ a0 ≤ 6) {Q : Option Value → h_S → Prop} (kk : ∀ (τ : h_S), h_I τ → h_F (k_in kf_v_keepsRow) τ σ → (τ 106 0 = σ 106 0) → (τ 106 1 = σ 106 1) → (τ 106 2 = σ 106 2) → (τ 106 3 = σ 106 3) → (τ 106 4 = σ 106 4) → (τ 106 5 = σ 106 5) → (τ 106 6 = σ 106 6) → Q none τ) : ∀ n : Nat, (∀ (s0 : h_S), h_I s0 → h_F (k_in kf_v_keepsRow) s0 σ → ∀ (y2 : Int32) (b2 : Int), y2.toInt = b2 → (0 ≤ b2 ∧ b2 ≤ 6) → (s0 106 0 = σ 106 0) → (s0 106 1 = σ 106 1) → (s0 106 2 = σ 106 2) → (s0 106 3 = σ 106 3) → (s0 106 4 = σ 106 4) → (s0 106 5 = σ 106 5) → (s0 106 6 = σ 106 6) → (6 + 1 - b2) * 1000000 + 1000000000 ≤ (n : Int) → h_T g_P (g_Y ns) 197 7 [(0, .ref 98), (1, .int x0), (2, .int y2)] [] s0 Q) := by
  intro n
  induction n with
  | zero => exact by intro s0 I0 F0_ y2 b2 hy2 ry2 ex0 ex1 ex2 ex3 ex4 ex5 ex6 hm; exfalso; omega
  | succ n ih =>
    intro s0 I0 F0_ y2 b2 hy2 ry2 ex0 ex1 ex2 ex3 ex4 ex5 ex6 hm
    refine h_iload_n (pc' := 8) rfl rfl rfl ?_
    refine h_iload_n (pc' := 9) rfl rfl rfl ?_
    refine h_cge (tg := 30) (pc' := 12) rfl rfl rfl hy2 hx0 (fun c1 => ?_) (fun c1 => ?_)
    · exact h_vret rfl rfl (kk _ I0 F0_ (by omega) (by omega) (by omega) (by omega) (by omega) (by omega) (by omega))
    · refine h_aload_n (pc' := 13) rfl rfl rfl ?_
      refine h_getR (pc' := 16) rfl rfl rfl rfl rfl ?_
      refine h_iload_n (pc' := 17) rfl rfl rfl ?_
      refine h_aload_n (pc' := 18) rfl rfl rfl ?_
      refine h_getR (pc' := 21) rfl rfl rfl rfl rfl ?_
      refine h_iload_n (pc' := 22) rfl rfl rfl ?_
      refine h_iald (pc' := 23) (v := σ 106 b2) rfl rfl rfl hy2 (by omega) (by omega) (F0_ 106 _ rfl) (fun z2 hz2 => ?_)
      have tz2 := ty_106 hI b2
      refine h_iast (pc' := 24) rfl rfl rfl rfl hy2 (by omega) (by omega) hz2 ?_
      have Is3 : h_I (h_up s0 107 b2 (σ 106 b2)) := (in_107 I0 (h_rgv hz2))
      have Fs3 := (F0_.up (q := 107) (a := b2) (v := (σ 106 b2)) rfl)
      have es3_0 : h_up s0 107 b2 (σ 106 b2) 106 0 = s0 106 0 := rfl
      have es3_1 : h_up s0 107 b2 (σ 106 b2) 106 1 = s0 106 1 := rfl
      have es3_2 : h_up s0 107 b2 (σ 106 b2) 106 2 = s0 106 2 := rfl
      have es3_3 : h_up s0 107 b2 (σ 106 b2) 106 3 = s0 106 3 := rfl
      have es3_4 : h_up s0 107 b2 (σ 106 b2) 106 4 = s0 106 4 := rfl
      have es3_5 : h_up s0 107 b2 (σ 106 b2) 106 5 = s0 106 5 := rfl
      have es3_6 : h_up s0 107 b2 (σ 106 b2) 106 6 = s0 106 6 := rfl
      generalize h_up s0 107 b2 (σ 106 b2) = s3 at Is3 Fs3 es3_0 es3_1 es3_2 es3_3 es3_4 es3_5 es3_6 ⊢
      refine h_iinc (pc' := 27) (M := fun z4 => [(2, .int z4), (0, .ref 98), (1, .int x0)]) rfl rfl rfl rfl hy2 ci_1 rfl (by omega) (by omega) (fun _ => rfl) (fun z4 hz4 => ?_)
      refine h_goto (pc' := 7) rfl rfl ?_
      exact h_wk [(0, .ref 98), (1, .int x0), (2, .int z4)] ⟨rfl, rfl, rfl, trivial⟩ (ih _ Is3 Fs3 z4 _ hz4 (by omega) (by omega) (by omega) (by omega) (by omega) (by omega) (by omega) (by omega) (by omega))
theorem v_keepsRow {ns : Nat} (σ : h_S) (hI : h_I σ) (x0 : Int32) (a0 : Int) (hx0 : x0.toInt = a0) (ra0 : 0 ≤ a0 ∧ a0 ≤ 6) {Q : Option Value → h_S → Prop} (kk : ∀ (τ : h_S), h_I τ → h_F (k_in kf_v_keepsRow) τ σ → (τ 106 0 = σ 106 0) → (τ 106 1 = σ 106 1) → (τ 106 2 = σ 106 2) → (τ 106 3 = σ 106 3) → (τ 106 4 = σ 106 4) → (τ 106 5 = σ 106 5) → (τ 106 6 = σ 106 6) → Q none τ) : h_T g_P (g_Y ns) 197 0 [(0, .ref 98), (1, .int x0)] [] σ Q := by
  have F00 : h_F (k_in kf_v_keepsRow) σ σ := h_F.rf
  refine h_aload_n (pc' := 1) rfl rfl rfl ?_
  refine h_iload_n (pc' := 2) rfl rfl rfl ?_
  refine h_put (pc' := 5) rfl rfl rfl rfl rfl rfl hx0 rfl ?_
  have Is1 : h_I (h_up σ 98 26 a0) := (if_98_26 hI (by omega))
  have Fs1 := (F00.up (q := 98) (a := 26) (v := a0) rfl)
  have es1_0 : h_up σ 98 26 a0 106 0 = σ 106 0 := rfl
  have es1_1 : h_up σ 98 26 a0 106 1 = σ 106 1 := rfl
  have es1_2 : h_up σ 98 26 a0 106 2 = σ 106 2 := rfl
  have es1_3 : h_up σ 98 26 a0 106 3 = σ 106 3 := rfl
  have es1_4 : h_up σ 98 26 a0 106 4 = σ 106 4 := rfl
  have es1_5 : h_up σ 98 26 a0 106 5 = σ 106 5 := rfl
  have es1_6 : h_up σ 98 26 a0 106 6 = σ 106 6 := rfl
  generalize h_up σ 98 26 a0 = s1 at Is1 Fs1 es1_0 es1_1 es1_2 es1_3 es1_4 es1_5 es1_6 ⊢
  refine h_iconst (pc' := 6) (x := (Int32.ofInt 0)) rfl rfl rfl ?_
  refine h_istore_n (pc' := 7) (M := [(2, .int (Int32.ofInt 0)), (0, .ref 98), (1, .int x0)]) rfl rfl rfl rfl ?_
  exact h_wk [(0, .ref 98), (1, .int x0), (2, .int (Int32.ofInt 0))] ⟨rfl, rfl, rfl, trivial⟩ ((v_keepsRow_l ns σ hI x0 a0 hx0 ra0 kk 1000000000000) _ Is1 Fs1 (Int32.ofInt 0) _ ci_0 (by omega) (by omega) (by omega) (by omega) (by omega) (by omega) (by omega) (by omega) (by omega))
