theorem v_areBelow69_l (ns : Nat) (σ : h_S) (hI : h_I σ) (x0 : Int32) (a0 : Int) (hx0 : x0.toInt = a0) {Q : Option Value → h_S → Prop} (kk : ∀ (r : Int32) (b : Int) (hb : r.toInt = b), (0 ≤ b ∧ b ≤ 1) → Q (some (.int r)) σ) : ∀ n : Nat, (∀ (y2 : Int32) (b2 : Int), y2.toInt = b2 → (0 ≤ b2 ∧ b2 ≤ 3) → (3 + 1 - b2) * 1000000 + 1000000000 ≤ (n : Int) → h_T g_P (g_Y ns) 49 2 [(0, .ref 69), (1, .int x0), (2, .int y2)] [] σ Q) := by
  intro n
  induction n with
  | zero => exact by intro  y2 b2 hy2 ry2 hm; exfalso; omega
  | succ n ih =>
    intro  y2 b2 hy2 ry2 hm
    refine h_iload_n (pc' := 3) rfl rfl rfl ?_
    refine h_aload_n (pc' := 4) rfl rfl rfl ?_
    refine h_getI (pc' := 7) (v := σ 69 2) rfl rfl rfl rfl rfl rfl (fun z1 hz1 => ?_)
    have tz1 := tf_69_2 hI
    refine h_cge (tg := 38) (pc' := 10) rfl rfl rfl hy2 hz1 (fun c2 => ?_) (fun c2 => ?_)
    · refine h_iconst (pc' := 39) (x := (Int32.ofInt 1)) rfl rfl rfl ?_
      exact h_zret rfl rfl ci_1 (by omega) (kk _ _ ci_1 (by omega))
    · refine h_aload_n (pc' := 11) rfl rfl rfl ?_
      refine h_getR (pc' := 14) rfl rfl rfl rfl rfl ?_
      refine h_iload_n (pc' := 15) rfl rfl rfl ?_
      refine h_iald (pc' := 16) (v := σ 70 b2) rfl rfl rfl hy2 (by omega) (by omega) rfl (fun z3 hz3 => ?_)
      have tz3 := ty_70 hI b2
      refine h_iload_n (pc' := 17) rfl rfl rfl ?_
      refine h_cge (tg := 30) (pc' := 20) rfl rfl rfl hz3 hx0 (fun c4 => ?_) (fun c4 => ?_)
      · refine h_iconst (pc' := 31) (x := (Int32.ofInt 0)) rfl rfl rfl ?_
        exact h_zret rfl rfl ci_0 (by omega) (kk _ _ ci_0 (by omega))
      · refine h_aload_n (pc' := 21) rfl rfl rfl ?_
        refine h_getR (pc' := 24) rfl rfl rfl rfl rfl ?_
        refine h_iload_n (pc' := 25) rfl rfl rfl ?_
        refine h_iald (pc' := 26) (v := σ 71 b2) rfl rfl rfl hy2 (by omega) (by omega) rfl (fun z5 hz5 => ?_)
        have tz5 := ty_71 hI b2
        refine h_iload_n (pc' := 27) rfl rfl rfl ?_
        refine h_clt (tg := 32) (pc' := 30) rfl rfl rfl hz5 hx0 (fun c6 => ?_) (fun c6 => ?_)
        · refine h_iinc (pc' := 35) (M := fun z7 => [(2, .int z7), (0, .ref 69), (1, .int x0)]) rfl rfl rfl rfl hy2 ci_1 rfl (by omega) (by omega) (fun _ => rfl) (fun z7 hz7 => ?_)
          refine h_goto (pc' := 2) rfl rfl ?_
          exact h_wk [(0, .ref 69), (1, .int x0), (2, .int z7)] ⟨rfl, rfl, rfl, trivial⟩ (ih z7 _ hz7 (by omega) (by omega))
        · refine h_iconst (pc' := 31) (x := (Int32.ofInt 0)) rfl rfl rfl ?_
          exact h_zret rfl rfl ci_0 (by omega) (kk _ _ ci_0 (by omega))
theorem v_areBelow69 {ns : Nat} (σ : h_S) (hI : h_I σ) (x0 : Int32) (a0 : Int) (hx0 : x0.toInt = a0) {Q : Option Value → h_S → Prop} (kk : ∀ (r : Int32) (b : Int) (hb : r.toInt = b), (0 ≤ b ∧ b ≤ 1) → Q (some (.int r)) σ) : h_T g_P (g_Y ns) 49 0 [(0, .ref 69), (1, .int x0)] [] σ Q := by
  refine h_iconst (pc' := 1) (x := (Int32.ofInt 0)) rfl rfl rfl ?_
  refine h_istore_n (pc' := 2) (M := [(2, .int (Int32.ofInt 0)), (0, .ref 69), (1, .int x0)]) rfl rfl rfl rfl ?_
  exact h_wk [(0, .ref 69), (1, .int x0), (2, .int (Int32.ofInt 0))] ⟨rfl, rfl, rfl, trivial⟩ ((v_areBelow69_l ns σ hI x0 a0 hx0 kk 1000000000000) (Int32.ofInt 0) _ ci_0 (by omega) (by omega))
theorem v_areBelow72_l (ns : Nat) (σ : h_S) (hI : h_I σ) (x0 : Int32) (a0 : Int) (hx0 : x0.toInt = a0) {Q : Option Value → h_S → Prop} (kk : ∀ (r : Int32) (b : Int) (hb : r.toInt = b), (0 ≤ b ∧ b ≤ 1) → Q (some (.int r)) σ) : ∀ n : Nat, (∀ (y2 : Int32) (b2 : Int), y2.toInt = b2 → (0 ≤ b2 ∧ b2 ≤ 3) → (3 + 1 - b2) * 1000000 + 1000000000 ≤ (n : Int) → h_T g_P (g_Y ns) 49 2 [(0, .ref 72), (1, .int x0), (2, .int y2)] [] σ Q) := by
  intro n
  induction n with
  | zero => exact by intro  y2 b2 hy2 ry2 hm; exfalso; omega
  | succ n ih =>
    intro  y2 b2 hy2 ry2 hm
    refine h_iload_n (pc' := 3) rfl rfl rfl ?_
    refine h_aload_n (pc' := 4) rfl rfl rfl ?_
    refine h_getI (pc' := 7) (v := σ 72 2) rfl rfl rfl rfl rfl rfl (fun z1 hz1 => ?_)
    have tz1 := tf_72_2 hI
    refine h_cge (tg := 38) (pc' := 10) rfl rfl rfl hy2 hz1 (fun c2 => ?_) (fun c2 => ?_)
    · refine h_iconst (pc' := 39) (x := (Int32.ofInt 1)) rfl rfl rfl ?_
      exact h_zret rfl rfl ci_1 (by omega) (kk _ _ ci_1 (by omega))
    · refine h_aload_n (pc' := 11) rfl rfl rfl ?_
      refine h_getR (pc' := 14) rfl rfl rfl rfl rfl ?_
      refine h_iload_n (pc' := 15) rfl rfl rfl ?_
      refine h_iald (pc' := 16) (v := σ 73 b2) rfl rfl rfl hy2 (by omega) (by omega) rfl (fun z3 hz3 => ?_)
      have tz3 := ty_73 hI b2
      refine h_iload_n (pc' := 17) rfl rfl rfl ?_
      refine h_cge (tg := 30) (pc' := 20) rfl rfl rfl hz3 hx0 (fun c4 => ?_) (fun c4 => ?_)
      · refine h_iconst (pc' := 31) (x := (Int32.ofInt 0)) rfl rfl rfl ?_
        exact h_zret rfl rfl ci_0 (by omega) (kk _ _ ci_0 (by omega))
      · refine h_aload_n (pc' := 21) rfl rfl rfl ?_
        refine h_getR (pc' := 24) rfl rfl rfl rfl rfl ?_
        refine h_iload_n (pc' := 25) rfl rfl rfl ?_
        refine h_iald (pc' := 26) (v := σ 74 b2) rfl rfl rfl hy2 (by omega) (by omega) rfl (fun z5 hz5 => ?_)
        have tz5 := ty_74 hI b2
        refine h_iload_n (pc' := 27) rfl rfl rfl ?_
        refine h_clt (tg := 32) (pc' := 30) rfl rfl rfl hz5 hx0 (fun c6 => ?_) (fun c6 => ?_)
        · refine h_iinc (pc' := 35) (M := fun z7 => [(2, .int z7), (0, .ref 72), (1, .int x0)]) rfl rfl rfl rfl hy2 ci_1 rfl (by omega) (by omega) (fun _ => rfl) (fun z7 hz7 => ?_)
          refine h_goto (pc' := 2) rfl rfl ?_
          exact h_wk [(0, .ref 72), (1, .int x0), (2, .int z7)] ⟨rfl, rfl, rfl, trivial⟩ (ih z7 _ hz7 (by omega) (by omega))
        · refine h_iconst (pc' := 31) (x := (Int32.ofInt 0)) rfl rfl rfl ?_
          exact h_zret rfl rfl ci_0 (by omega) (kk _ _ ci_0 (by omega))
theorem v_areBelow72 {ns : Nat} (σ : h_S) (hI : h_I σ) (x0 : Int32) (a0 : Int) (hx0 : x0.toInt = a0) {Q : Option Value → h_S → Prop} (kk : ∀ (r : Int32) (b : Int) (hb : r.toInt = b), (0 ≤ b ∧ b ≤ 1) → Q (some (.int r)) σ) : h_T g_P (g_Y ns) 49 0 [(0, .ref 72), (1, .int x0)] [] σ Q := by
  refine h_iconst (pc' := 1) (x := (Int32.ofInt 0)) rfl rfl rfl ?_
  refine h_istore_n (pc' := 2) (M := [(2, .int (Int32.ofInt 0)), (0, .ref 72), (1, .int x0)]) rfl rfl rfl rfl ?_
  exact h_wk [(0, .ref 72), (1, .int x0), (2, .int (Int32.ofInt 0))] ⟨rfl, rfl, rfl, trivial⟩ ((v_areBelow72_l ns σ hI x0 a0 hx0 kk 1000000000000) (Int32.ofInt 0) _ ci_0 (by omega) (by omega))
theorem v_isWhole_l (ns : Nat) (σ : h_S) (hI : h_I σ) {Q : Option Value → h_S → Prop} (kk : ∀ (r : Int32) (b : Int) (hb : r.toInt = b), (0 ≤ b ∧ b ≤ 1) → Q (some (.int r)) σ) : ∀ n : Nat, (∀ (y1 : Int32) (b1 : Int), y1.toInt = b1 → (0 ≤ b1 ∧ b1 ≤ 3) → (3 + 1 - b1) * 1000000 + 2000000000 ≤ (n : Int) → h_T g_P (g_Y ns) 16 32 [(0, .ref 66), (1, .int y1)] [] σ Q) ∧ (∀ (y1 : Int32) (b1 : Int), y1.toInt = b1 → (0 ≤ b1 ∧ b1 ≤ 8) → (8 + 1 - b1) * 1000000 + 1000000000 ≤ (n : Int) → h_T g_P (g_Y ns) 16 74 [(0, .ref 66), (1, .int y1)] [] σ Q) := by
  intro n
  induction n with
  | zero => exact ⟨by intro  y1 b1 hy1 ry1 hm; exfalso; omega, by intro  y1 b1 hy1 ry1 hm; exfalso; omega⟩
  | succ n ih =>
    refine ⟨?_, ?_⟩
    · intro  y1 b1 hy1 ry1 hm
      refine h_iload_n (pc' := 33) rfl rfl rfl ?_
      refine h_aload_n (pc' := 34) rfl rfl rfl ?_
      refine h_getI (pc' := 37) (v := σ 66 9) rfl rfl rfl rfl rfl rfl (fun z1 hz1 => ?_)
      have tz1 := tf_66_9 hI
      refine h_cge (tg := 72) (pc' := 40) rfl rfl rfl hy1 hz1 (fun c2 => ?_) (fun c2 => ?_)
      · refine h_iconst (pc' := 73) (x := (Int32.ofInt 0)) rfl rfl rfl ?_
        refine h_istore_n (pc' := 74) (M := [(1, .int (Int32.ofInt 0)), (0, .ref 66)]) rfl rfl rfl rfl ?_
        exact h_wk [(0, .ref 66), (1, .int (Int32.ofInt 0))] ⟨rfl, rfl, trivial⟩ (ih.2 (Int32.ofInt 0) _ ci_0 (by omega) (by omega))
      · refine h_aload_n (pc' := 41) rfl rfl rfl ?_
        refine h_getR (pc' := 44) rfl rfl rfl rfl rfl ?_
        refine h_iload_n (pc' := 45) rfl rfl rfl ?_
        refine h_iald (pc' := 46) (v := σ 76 b1) rfl rfl rfl hy1 (by omega) (by omega) rfl (fun z3 hz3 => ?_)
        have tz3 := ty_76 hI b1
        refine h_bipush (pc' := 48) (x := (Int32.ofInt (-4))) rfl rfl cb_m4 ?_
        refine h_ceq (tg := 66) (pc' := 51) rfl rfl rfl hz3 ci_m4 (fun c4 => ?_) (fun c4 => ?_)
        · refine h_iinc (pc' := 69) (M := fun z5 => [(1, .int z5), (0, .ref 66)]) rfl rfl rfl rfl hy1 ci_1 rfl (by omega) (by omega) (fun _ => rfl) (fun z5 hz5 => ?_)
          refine h_goto (pc' := 32) rfl rfl ?_
          exact h_wk [(0, .ref 66), (1, .int z5)] ⟨rfl, rfl, trivial⟩ (ih.1 z5 _ hz5 (by omega) (by omega))
        · refine h_aload_n (pc' := 52) rfl rfl rfl ?_
          refine h_aload_n (pc' := 53) rfl rfl rfl ?_
          refine h_getR (pc' := 56) rfl rfl rfl rfl rfl ?_
          refine h_iload_n (pc' := 57) rfl rfl rfl ?_
          refine h_iald (pc' := 58) (v := σ 76 b1) rfl rfl rfl hy1 (by omega) (by omega) rfl (fun z6 hz6 => ?_)
          have tz6 := ty_76 hI b1
          refine h_call (sp := false) (pc' := 61) (M := [(0, .ref 66), (1, .int z6)]) rfl rfl rfl rfl rfl rfl rfl rfl ?_
          refine h_iload_n (pc' := 1) rfl rfl rfl ?_
          refine h_zlt (tg := 16) (pc' := 4) rfl rfl rfl hz6 (fun c7 => ?_) (fun c7 => ?_)
          · refine h_iconst (pc' := 17) (x := (Int32.ofInt 0)) rfl rfl rfl ?_
            refine h_zret rfl rfl ci_0 (by omega) (h_Kv ?_)
            refine h_zne (tg := 66) (pc' := 64) rfl rfl rfl ci_0 (fun c8 => absurd c8 (by omega)) (fun c8 => ?_)
            refine h_iconst (pc' := 65) (x := (Int32.ofInt 0)) rfl rfl rfl ?_
            exact h_zret rfl rfl ci_0 (by omega) (kk _ _ ci_0 (by omega))
          · refine h_iload_n (pc' := 5) rfl rfl rfl ?_
            refine h_aload_n (pc' := 6) rfl rfl rfl ?_
            refine h_getI (pc' := 9) (v := σ 66 8) rfl rfl rfl rfl rfl rfl (fun z9 hz9 => ?_)
            have tz9 := tf_66_8 hI
            refine h_cge (tg := 16) (pc' := 12) rfl rfl rfl hz6 hz9 (fun c10 => ?_) (fun c10 => ?_)
            · refine h_iconst (pc' := 17) (x := (Int32.ofInt 0)) rfl rfl rfl ?_
              refine h_zret rfl rfl ci_0 (by omega) (h_Kv ?_)
              refine h_zne (tg := 66) (pc' := 64) rfl rfl rfl ci_0 (fun c11 => absurd c11 (by omega)) (fun c11 => ?_)
              refine h_iconst (pc' := 65) (x := (Int32.ofInt 0)) rfl rfl rfl ?_
              exact h_zret rfl rfl ci_0 (by omega) (kk _ _ ci_0 (by omega))
            · refine h_iconst (pc' := 13) (x := (Int32.ofInt 1)) rfl rfl rfl ?_
              refine h_goto (pc' := 17) rfl rfl ?_
              refine h_zret rfl rfl ci_1 (by omega) (h_Kv ?_)
              refine h_zne (tg := 66) (pc' := 64) rfl rfl rfl ci_1 (fun c12 => ?_) (fun c12 => absurd c12 (by omega))
              refine h_iinc (pc' := 69) (M := fun z13 => [(1, .int z13), (0, .ref 66)]) rfl rfl rfl rfl hy1 ci_1 rfl (by omega) (by omega) (fun _ => rfl) (fun z13 hz13 => ?_)
              refine h_goto (pc' := 32) rfl rfl ?_
              exact h_wk [(0, .ref 66), (1, .int z13)] ⟨rfl, rfl, trivial⟩ (ih.1 z13 _ hz13 (by omega) (by omega))
    · intro  y1 b1 hy1 ry1 hm
      refine h_iload_n (pc' := 75) rfl rfl rfl ?_
      refine h_aload_n (pc' := 76) rfl rfl rfl ?_
      refine h_getI (pc' := 79) (v := σ 66 10) rfl rfl rfl rfl rfl rfl (fun z1 hz1 => ?_)
      have tz1 := tf_66_10 hI
      refine h_cge (tg := 122) (pc' := 82) rfl rfl rfl hy1 hz1 (fun c2 => ?_) (fun c2 => ?_)
      · refine h_iconst (pc' := 123) (x := (Int32.ofInt 1)) rfl rfl rfl ?_
        exact h_zret rfl rfl ci_1 (by omega) (kk _ _ ci_1 (by omega))
      · refine h_aload_n (pc' := 83) rfl rfl rfl ?_
        refine h_aload_n (pc' := 84) rfl rfl rfl ?_
        refine h_getR (pc' := 87) rfl rfl rfl rfl rfl ?_
        refine h_iload_n (pc' := 88) rfl rfl rfl ?_
        refine h_iald (pc' := 89) (v := σ 78 b1) rfl rfl rfl hy1 (by omega) (by omega) rfl (fun z3 hz3 => ?_)
        have tz3 := ty_78 hI b1
        refine h_bipush (pc' := 91) (x := (Int32.ofInt 10)) rfl rfl cb_10 ?_
        refine h_idiv (pc' := 92) rfl rfl hz3 ci_10 (by omega) (by omega) (fun z4 hz4 => ?_)
        refine h_call (sp := false) (pc' := 95) (M := [(0, .ref 66), (1, .int z4)]) rfl rfl rfl rfl rfl rfl rfl rfl ?_
        refine h_iload_n (pc' := 1) rfl rfl rfl ?_
        refine h_zlt (tg := 16) (pc' := 4) rfl rfl rfl hz4 (fun c5 => absurd c5 (by omega)) (fun c5 => ?_)
        refine h_iload_n (pc' := 5) rfl rfl rfl ?_
        refine h_aload_n (pc' := 6) rfl rfl rfl ?_
        refine h_getI (pc' := 9) (v := σ 66 8) rfl rfl rfl rfl rfl rfl (fun z6 hz6 => ?_)
        have tz6 := tf_66_8 hI
        refine h_cge (tg := 16) (pc' := 12) rfl rfl rfl hz4 hz6 (fun c7 => ?_) (fun c7 => ?_)
        · refine h_iconst (pc' := 17) (x := (Int32.ofInt 0)) rfl rfl rfl ?_
          refine h_zret rfl rfl ci_0 (by omega) (h_Kv ?_)
          refine h_zeq (tg := 114) (pc' := 98) rfl rfl rfl ci_0 (fun c8 => ?_) (fun c8 => absurd c8 (by omega))
          refine h_iconst (pc' := 115) (x := (Int32.ofInt 0)) rfl rfl rfl ?_
          exact h_zret rfl rfl ci_0 (by omega) (kk _ _ ci_0 (by omega))
        · refine h_iconst (pc' := 13) (x := (Int32.ofInt 1)) rfl rfl rfl ?_
          refine h_goto (pc' := 17) rfl rfl ?_
          refine h_zret rfl rfl ci_1 (by omega) (h_Kv ?_)
          refine h_zeq (tg := 114) (pc' := 98) rfl rfl rfl ci_1 (fun c9 => absurd c9 (by omega)) (fun c9 => ?_)
          refine h_aload_n (pc' := 99) rfl rfl rfl ?_
          refine h_aload_n (pc' := 100) rfl rfl rfl ?_
          refine h_getR (pc' := 103) rfl rfl rfl rfl rfl ?_
          refine h_iload_n (pc' := 104) rfl rfl rfl ?_
          refine h_iald (pc' := 105) (v := σ 78 b1) rfl rfl rfl hy1 (by omega) (by omega) rfl (fun z10 hz10 => ?_)
          have tz10 := ty_78 hI b1
          refine h_bipush (pc' := 107) (x := (Int32.ofInt 10)) rfl rfl cb_10 ?_
          refine h_irem (pc' := 108) rfl rfl hz10 ci_10 (by omega) (by omega) (fun z11 hz11 => ?_)
          refine h_call (sp := false) (pc' := 111) (M := [(0, .ref 66), (1, .int z11)]) rfl rfl rfl rfl rfl rfl rfl rfl ?_
          refine h_iload_n (pc' := 1) rfl rfl rfl ?_
          refine h_zlt (tg := 16) (pc' := 4) rfl rfl rfl hz11 (fun c12 => absurd c12 (by omega)) (fun c12 => ?_)
          refine h_iload_n (pc' := 5) rfl rfl rfl ?_
          refine h_aload_n (pc' := 6) rfl rfl rfl ?_
          refine h_getI (pc' := 9) (v := σ 66 9) rfl rfl rfl rfl rfl rfl (fun z13 hz13 => ?_)
          have tz13 := tf_66_9 hI
          refine h_cge (tg := 16) (pc' := 12) rfl rfl rfl hz11 hz13 (fun c14 => ?_) (fun c14 => ?_)
          · refine h_iconst (pc' := 17) (x := (Int32.ofInt 0)) rfl rfl rfl ?_
            refine h_zret rfl rfl ci_0 (by omega) (h_Kv ?_)
            refine h_zne (tg := 116) (pc' := 114) rfl rfl rfl ci_0 (fun c15 => absurd c15 (by omega)) (fun c15 => ?_)
            refine h_iconst (pc' := 115) (x := (Int32.ofInt 0)) rfl rfl rfl ?_
            exact h_zret rfl rfl ci_0 (by omega) (kk _ _ ci_0 (by omega))
          · refine h_iconst (pc' := 13) (x := (Int32.ofInt 1)) rfl rfl rfl ?_
            refine h_goto (pc' := 17) rfl rfl ?_
            refine h_zret rfl rfl ci_1 (by omega) (h_Kv ?_)
            refine h_zne (tg := 116) (pc' := 114) rfl rfl rfl ci_1 (fun c16 => ?_) (fun c16 => absurd c16 (by omega))
            refine h_iinc (pc' := 119) (M := fun z17 => [(1, .int z17), (0, .ref 66)]) rfl rfl rfl rfl hy1 ci_1 rfl (by omega) (by omega) (fun _ => rfl) (fun z17 hz17 => ?_)
            refine h_goto (pc' := 74) rfl rfl ?_
            exact h_wk [(0, .ref 66), (1, .int z17)] ⟨rfl, rfl, trivial⟩ (ih.2 z17 _ hz17 (by omega) (by omega))
theorem v_isWhole {ns : Nat} (σ : h_S) (hI : h_I σ) {Q : Option Value → h_S → Prop} (kk : ∀ (r : Int32) (b : Int) (hb : r.toInt = b), (0 ≤ b ∧ b ≤ 1) → Q (some (.int r)) σ) : h_T g_P (g_Y ns) 16 0 [(0, .ref 66)] [] σ Q := by
  refine h_aload_n (pc' := 1) rfl rfl rfl ?_
  refine h_getR (pc' := 4) rfl rfl rfl rfl rfl ?_
  refine h_aload_n (pc' := 5) rfl rfl rfl ?_
  refine h_getI (pc' := 8) (v := σ 66 8) rfl rfl rfl rfl rfl rfl (fun z1 hz1 => ?_)
  have tz1 := tf_66_8 hI
  refine h_call (sp := false) (pc' := 11) (M := [(0, .ref 69), (1, .int z1)]) rfl rfl rfl rfl rfl rfl rfl rfl ?_
  refine v_areBelow69 _ hI z1 _ hz1 (fun r2 br2 hr2 tr2 => h_Kv ?_)
  refine h_zeq (tg := 28) (pc' := 14) rfl rfl rfl hr2 (fun c4 => ?_) (fun c4 => ?_)
  · refine h_iconst (pc' := 29) (x := (Int32.ofInt 0)) rfl rfl rfl ?_
    exact h_zret rfl rfl ci_0 (by omega) (kk _ _ ci_0 (by omega))
  · refine h_aload_n (pc' := 15) rfl rfl rfl ?_
    refine h_getR (pc' := 18) rfl rfl rfl rfl rfl ?_
    refine h_aload_n (pc' := 19) rfl rfl rfl ?_
    refine h_getI (pc' := 22) (v := σ 66 8) rfl rfl rfl rfl rfl rfl (fun z5 hz5 => ?_)
    have tz5 := tf_66_8 hI
    refine h_call (sp := false) (pc' := 25) (M := [(0, .ref 72), (1, .int z5)]) rfl rfl rfl rfl rfl rfl rfl rfl ?_
    refine v_areBelow72 _ hI z5 _ hz5 (fun r6 br6 hr6 tr6 => h_Kv ?_)
    refine h_zne (tg := 30) (pc' := 28) rfl rfl rfl hr6 (fun c8 => ?_) (fun c8 => ?_)
    · refine h_iconst (pc' := 31) (x := (Int32.ofInt 0)) rfl rfl rfl ?_
      refine h_istore_n (pc' := 32) (M := [(1, .int (Int32.ofInt 0)), (0, .ref 66)]) rfl rfl rfl rfl ?_
      exact h_wk [(0, .ref 66), (1, .int (Int32.ofInt 0))] ⟨rfl, rfl, trivial⟩ ((v_isWhole_l ns σ hI  kk 1000000000000).1 (Int32.ofInt 0) _ ci_0 (by omega) (by omega))
    · refine h_iconst (pc' := 29) (x := (Int32.ofInt 0)) rfl rfl rfl ?_
      exact h_zret rfl rfl ci_0 (by omega) (kk _ _ ci_0 (by omega))
def kf_v_readText : List Nat := [64514, 64515, 64516, 64517, 65538, 65539, 65540, 65541, 67592, 67593, 67594, 69631, 70655, 70658, 72703, 73727, 73730, 75775, 76799, 77823, 78847, 79871, 80895]
set_option maxHeartbeats 100000000 in
theorem v_readText_l (ns : Nat) (σ : h_S) (hI : h_I σ) {Q : Option Value → h_S → Prop} (kk : ∀ (τ : h_S), h_I τ → h_F (k_in kf_v_readText) τ σ → Q none τ) : ∀ n : Nat, (∀ (s0 : h_S), h_I s0 → h_F (k_in kf_v_readText) s0 σ → ∀ (y1 : Int32) (b1 : Int), y1.toInt = b1 → (0 ≤ b1 ∧ b1 ≤ 160) → ((¬ s0 63 2 = 0 ∨ ¬ s0 64 3 = 2 ∨ (0 ≤ s0 64 5 ∧ s0 64 5 ≤ 99))) → (160 + 1 - b1) * 1000000 + 1000000000 ≤ (n : Int) → h_T g_P (g_Y ns) 52 35 [(0, .ref 63), (1, .int y1)] [] s0 Q) := by
  intro n
  induction n with
  | zero => exact by intro s0 I0 F0_ y1 b1 hy1 ry1 ex0 hm; exfalso; omega
  | succ n ih =>
    intro s0 I0 F0_ y1 b1 hy1 ry1 ex0 hm
    refine h_iload_n (pc' := 36) rfl rfl rfl ?_
    refine h_sipush (pc' := 39) (x := (Int32.ofInt 160)) rfl rfl cs_160 ?_
    refine h_cge (tg := 83) (pc' := 42) rfl rfl rfl hy1 ci_160 (fun c1 => ?_) (fun c1 => ?_)
    · refine h_aload_n (pc' := 84) rfl rfl rfl ?_
      refine h_getI (pc' := 87) (v := s0 63 2) rfl rfl rfl rfl rfl rfl (fun z2 hz2 => ?_)
      have tz2 := tf_63_2 I0
      refine h_zne (tg := 113) (pc' := 90) rfl rfl rfl hz2 (fun c3 => ?_) (fun c3 => ?_)
      · exact h_vret rfl rfl (kk _ I0 F0_)
      · refine h_aload_n (pc' := 91) rfl rfl rfl ?_
        refine h_getR (pc' := 94) rfl rfl rfl rfl rfl ?_
        refine h_call (sp := false) (pc' := 97) (M := [(0, .ref 66)]) rfl rfl rfl rfl rfl rfl rfl rfl ?_
        refine v_isWhole _ I0  (fun r4 br4 hr4 tr4 => h_Kv ?_)
        refine h_zne (tg := 113) (pc' := 100) rfl rfl rfl hr4 (fun c6 => ?_) (fun c6 => ?_)
        · exact h_vret rfl rfl (kk _ I0 F0_)
        · refine h_aload_n (pc' := 101) rfl rfl rfl ?_
          refine h_bipush (pc' := 103) (x := (Int32.ofInt 6)) rfl rfl cb_6 ?_
          refine h_aload_n (pc' := 104) rfl rfl rfl ?_
          refine h_getR (pc' := 107) rfl rfl rfl rfl rfl ?_
          refine h_getI (pc' := 110) (v := σ 64 1) rfl rfl rfl rfl rfl (F0_ 64 1 rfl) (fun z7 hz7 => ?_)
          have tz7 := tf_64_1 hI
          refine h_call (sp := false) (pc' := 113) (M := [(0, .ref 63), (1, .int (Int32.ofInt 6)), (2, .int z7)]) rfl rfl rfl rfl rfl rfl rfl rfl ?_
          refine h_aload_n (pc' := 1) rfl rfl rfl ?_
          refine h_getI (pc' := 4) (v := s0 63 2) rfl rfl rfl rfl rfl rfl (fun z8 hz8 => ?_)
          have tz8 := tf_63_2 I0
          refine h_zne (tg := 17) (pc' := 7) rfl rfl rfl hz8 (fun c9 => absurd c9 (by omega)) (fun c9 => ?_)
          refine h_aload_n (pc' := 8) rfl rfl rfl ?_
          refine h_iload_n (pc' := 9) rfl rfl rfl ?_
          refine h_put (pc' := 12) rfl rfl rfl rfl rfl rfl ci_6 rfl (h_fgt (E := fun s => s 63 2 = 6 ∧ s 64 3 = s0 64 3 ∧ s 64 5 = s0 64 5) _ (if_63_2 I0 (by omega)) (F0_.up rfl) ⟨rfl, rfl, rfl⟩ (fun s10 Is10 Fs10 (es10 : s10 63 2 = 6 ∧ s10 64 3 = s0 64 3 ∧ s10 64 5 = s0 64 5) => ?_))
          refine h_aload_n (pc' := 13) rfl rfl rfl ?_
          refine h_iload_n (pc' := 14) rfl rfl rfl ?_
          refine h_put (pc' := 17) rfl rfl rfl rfl rfl rfl hz7 rfl (h_fgt (E := fun s => s 63 2 = 6 ∧ s 64 3 = s0 64 3 ∧ s 64 5 = s0 64 5) _ (if_63_3 Is10 (h_rgv hz7)) (Fs10.up rfl) ⟨es10.1, es10.2.1, es10.2.2⟩ (fun s11 Is11 Fs11 (es11 : s11 63 2 = 6 ∧ s11 64 3 = s0 64 3 ∧ s11 64 5 = s0 64 5) => ?_))
          clear es10
          refine h_vret rfl rfl (h_Kn ?_)
          exact h_vret rfl rfl (kk _ Is11 Fs11)
    · refine h_aload_n (pc' := 43) rfl rfl rfl ?_
      refine h_getI (pc' := 46) (v := s0 63 2) rfl rfl rfl rfl rfl rfl (fun z12 hz12 => ?_)
      have tz12 := tf_63_2 I0
      refine h_zne (tg := 83) (pc' := 49) rfl rfl rfl hz12 (fun c13 => ?_) (fun c13 => ?_)
      · refine h_aload_n (pc' := 84) rfl rfl rfl ?_
        refine h_getI (pc' := 87) (v := s0 63 2) rfl rfl rfl rfl rfl rfl (fun z14 hz14 => ?_)
        have tz14 := tf_63_2 I0
        refine h_zne (tg := 113) (pc' := 90) rfl rfl rfl hz14 (fun c15 => ?_) (fun c15 => absurd c15 (by omega))
        exact h_vret rfl rfl (kk _ I0 F0_)
      · refine h_aload_n (pc' := 50) rfl rfl rfl ?_
        refine h_getR (pc' := 53) rfl rfl rfl rfl rfl ?_
        refine h_getI (pc' := 56) (v := s0 64 3) rfl rfl rfl rfl rfl rfl (fun z16 hz16 => ?_)
        have tz16 := tf_64_3 I0
        refine h_zeq (tg := 83) (pc' := 59) rfl rfl rfl hz16 (fun c17 => ?_) (fun c17 => ?_)
        · refine h_aload_n (pc' := 84) rfl rfl rfl ?_
          refine h_getI (pc' := 87) (v := s0 63 2) rfl rfl rfl rfl rfl rfl (fun z18 hz18 => ?_)
          have tz18 := tf_63_2 I0
          refine h_zne (tg := 113) (pc' := 90) rfl rfl rfl hz18 (fun c19 => absurd c19 (by omega)) (fun c19 => ?_)
          refine h_aload_n (pc' := 91) rfl rfl rfl ?_
          refine h_getR (pc' := 94) rfl rfl rfl rfl rfl ?_
          refine h_call (sp := false) (pc' := 97) (M := [(0, .ref 66)]) rfl rfl rfl rfl rfl rfl rfl rfl ?_
          refine v_isWhole _ I0  (fun r20 br20 hr20 tr20 => h_Kv ?_)
          refine h_zne (tg := 113) (pc' := 100) rfl rfl rfl hr20 (fun c22 => ?_) (fun c22 => ?_)
          · exact h_vret rfl rfl (kk _ I0 F0_)
          · refine h_aload_n (pc' := 101) rfl rfl rfl ?_
            refine h_bipush (pc' := 103) (x := (Int32.ofInt 6)) rfl rfl cb_6 ?_
            refine h_aload_n (pc' := 104) rfl rfl rfl ?_
            refine h_getR (pc' := 107) rfl rfl rfl rfl rfl ?_
            refine h_getI (pc' := 110) (v := σ 64 1) rfl rfl rfl rfl rfl (F0_ 64 1 rfl) (fun z23 hz23 => ?_)
            have tz23 := tf_64_1 hI
            refine h_call (sp := false) (pc' := 113) (M := [(0, .ref 63), (1, .int (Int32.ofInt 6)), (2, .int z23)]) rfl rfl rfl rfl rfl rfl rfl rfl ?_
            refine h_aload_n (pc' := 1) rfl rfl rfl ?_
            refine h_getI (pc' := 4) (v := s0 63 2) rfl rfl rfl rfl rfl rfl (fun z24 hz24 => ?_)
            have tz24 := tf_63_2 I0
            refine h_zne (tg := 17) (pc' := 7) rfl rfl rfl hz24 (fun c25 => absurd c25 (by omega)) (fun c25 => ?_)
            refine h_aload_n (pc' := 8) rfl rfl rfl ?_
            refine h_iload_n (pc' := 9) rfl rfl rfl ?_
            refine h_put (pc' := 12) rfl rfl rfl rfl rfl rfl ci_6 rfl (h_fgt (E := fun s => s 63 2 = 6 ∧ s 64 3 = s0 64 3 ∧ s 64 5 = s0 64 5) _ (if_63_2 I0 (by omega)) (F0_.up rfl) ⟨rfl, rfl, rfl⟩ (fun s26 Is26 Fs26 (es26 : s26 63 2 = 6 ∧ s26 64 3 = s0 64 3 ∧ s26 64 5 = s0 64 5) => ?_))
            refine h_aload_n (pc' := 13) rfl rfl rfl ?_
            refine h_iload_n (pc' := 14) rfl rfl rfl ?_
            refine h_put (pc' := 17) rfl rfl rfl rfl rfl rfl hz23 rfl (h_fgt (E := fun s => s 63 2 = 6 ∧ s 64 3 = s0 64 3 ∧ s 64 5 = s0 64 5) _ (if_63_3 Is26 (h_rgv hz23)) (Fs26.up rfl) ⟨es26.1, es26.2.1, es26.2.2⟩ (fun s27 Is27 Fs27 (es27 : s27 63 2 = 6 ∧ s27 64 3 = s0 64 3 ∧ s27 64 5 = s0 64 5) => ?_))
            clear es26
            refine h_vret rfl rfl (h_Kn ?_)
            exact h_vret rfl rfl (kk _ Is27 Fs27)
        · refine h_aload_n (pc' := 60) rfl rfl rfl ?_
          refine h_call (sp := false) (pc' := 63) (M := [(0, .ref 63)]) rfl rfl rfl rfl rfl rfl rfl rfl ?_
          refine v_readLineX _ I0  (by omega) (fun s29 Is29 Gs29 pcs29 => h_Kn ?_)
          have Fs29 := (Gs29.mono (B := kf_v_readText) rfl).tr F0_
          rcases pcs29 with pcs29 | pcs29 | pcs29
          · exfalso; omega
          · refine h_aload_n (pc' := 64) rfl rfl rfl ?_
            refine h_dup (pc' := 65) rfl rfl rfl ?_
            refine h_getI (pc' := 68) (v := s29 63 4) rfl rfl rfl rfl rfl rfl (fun z30 hz30 => ?_)
            have tz30 := tf_63_4 Is29
            refine h_iconst (pc' := 69) (x := (Int32.ofInt 1)) rfl rfl rfl ?_
            refine h_iaddA (pc' := 70) rfl rfl (fun z31 hz31 => ?_)
            refine h_put (pc' := 73) rfl rfl rfl rfl rfl rfl rfl rfl (h_fgt (E := fun s => s 63 2 = s29 63 2 ∧ s 64 3 = s29 64 3 ∧ s 64 5 = s29 64 5) _ (if_63_4 Is29 (h_rgv rfl)) (Fs29.up rfl) ⟨rfl, rfl, rfl⟩ (fun s32 Is32 Fs32 (es32 : s32 63 2 = s29 63 2 ∧ s32 64 3 = s29 64 3 ∧ s32 64 5 = s29 64 5) => ?_))
            refine h_aload_n (pc' := 74) rfl rfl rfl ?_
            refine h_call (sp := false) (pc' := 77) (M := [(0, .ref 63)]) rfl rfl rfl rfl rfl rfl rfl rfl ?_
            refine v_stepX _ Is32  (fun s34 Is34 Gs34 pcs34 => h_Kn ?_)
            have Fs34 := (Gs34.mono (B := kf_v_readText) rfl).tr Fs32
            rcases pcs34 with pcs34 | pcs34 | pcs34
            · refine h_iinc (pc' := 80) (M := fun z35 => [(1, .int z35), (0, .ref 63)]) rfl rfl rfl rfl hy1 ci_1 rfl (by omega) (by omega) (fun _ => rfl) (fun z35 hz35 => ?_)
              refine h_goto (pc' := 35) rfl rfl ?_
              exact h_wk [(0, .ref 63), (1, .int z35)] ⟨rfl, rfl, trivial⟩ (ih _ Is34 Fs34 z35 _ hz35 (by omega) (by omega) (by omega))
            · exfalso; omega
            · exfalso; omega
          · refine h_aload_n (pc' := 64) rfl rfl rfl ?_
            refine h_dup (pc' := 65) rfl rfl rfl ?_
            refine h_getI (pc' := 68) (v := s29 63 4) rfl rfl rfl rfl rfl rfl (fun z36 hz36 => ?_)
            have tz36 := tf_63_4 Is29
            refine h_iconst (pc' := 69) (x := (Int32.ofInt 1)) rfl rfl rfl ?_
            refine h_iaddA (pc' := 70) rfl rfl (fun z37 hz37 => ?_)
            refine h_put (pc' := 73) rfl rfl rfl rfl rfl rfl rfl rfl (h_fgt (E := fun s => s 63 2 = s29 63 2 ∧ s 64 3 = s29 64 3 ∧ s 64 5 = s29 64 5) _ (if_63_4 Is29 (h_rgv rfl)) (Fs29.up rfl) ⟨rfl, rfl, rfl⟩ (fun s38 Is38 Fs38 (es38 : s38 63 2 = s29 63 2 ∧ s38 64 3 = s29 64 3 ∧ s38 64 5 = s29 64 5) => ?_))
            refine h_aload_n (pc' := 74) rfl rfl rfl ?_
            refine h_call (sp := false) (pc' := 77) (M := [(0, .ref 63)]) rfl rfl rfl rfl rfl rfl rfl rfl ?_
            refine v_stepX _ Is38  (fun s40 Is40 Gs40 pcs40 => h_Kn ?_)
            have Fs40 := (Gs40.mono (B := kf_v_readText) rfl).tr Fs38
            rcases pcs40 with pcs40 | pcs40 | pcs40
            · exfalso; omega
            · refine h_iinc (pc' := 80) (M := fun z41 => [(1, .int z41), (0, .ref 63)]) rfl rfl rfl rfl hy1 ci_1 rfl (by omega) (by omega) (fun _ => rfl) (fun z41 hz41 => ?_)
              refine h_goto (pc' := 35) rfl rfl ?_
              exact h_wk [(0, .ref 63), (1, .int z41)] ⟨rfl, rfl, trivial⟩ (ih _ Is40 Fs40 z41 _ hz41 (by omega) (by omega) (by omega))
            · refine h_iinc (pc' := 80) (M := fun z42 => [(1, .int z42), (0, .ref 63)]) rfl rfl rfl rfl hy1 ci_1 rfl (by omega) (by omega) (fun _ => rfl) (fun z42 hz42 => ?_)
              refine h_goto (pc' := 35) rfl rfl ?_
              exact h_wk [(0, .ref 63), (1, .int z42)] ⟨rfl, rfl, trivial⟩ (ih _ Is40 Fs40 z42 _ hz42 (by omega) (by omega) (by omega))
set_option maxHeartbeats 100000000 in
theorem v_readText {ns : Nat} (σ : h_S) (hI : h_I σ) {Q : Option Value → h_S → Prop} (kk : ∀ (τ : h_S), h_I τ → h_F (k_in kf_v_readText) τ σ → Q none τ) : h_T g_P (g_Y ns) 52 0 [(0, .ref 63)] [] σ Q := by
  have F00 : h_F (k_in kf_v_readText) σ σ := h_F.rf
  refine h_aload_n (pc' := 1) rfl rfl rfl ?_
  refine h_getR (pc' := 4) rfl rfl rfl rfl rfl ?_
  refine h_call (sp := false) (pc' := 7) (M := [(0, .ref 66)]) rfl rfl rfl rfl rfl rfl rfl rfl ?_
  refine h_aload_n (pc' := 1) rfl rfl rfl ?_
  refine h_iconst (pc' := 2) (x := (Int32.ofInt 0)) rfl rfl rfl ?_
  refine h_put (pc' := 5) rfl rfl rfl rfl rfl rfl ci_0 rfl (h_fgt (E := fun s => s 63 2 = σ 63 2 ∧ s 64 3 = σ 64 3 ∧ s 64 5 = σ 64 5) _ (if_66_8 hI (by omega)) (F00.up rfl) ⟨rfl, rfl, rfl⟩ (fun s1 Is1 Fs1 (es1 : s1 63 2 = σ 63 2 ∧ s1 64 3 = σ 64 3 ∧ s1 64 5 = σ 64 5) => ?_))
  refine h_aload_n (pc' := 6) rfl rfl rfl ?_
  refine h_getR (pc' := 9) rfl rfl rfl rfl rfl ?_
  refine h_iconst (pc' := 10) (x := (Int32.ofInt 0)) rfl rfl rfl ?_
  refine h_put (pc' := 13) rfl rfl rfl rfl rfl rfl ci_0 rfl (h_fgt (E := fun s => s 63 2 = σ 63 2 ∧ s 64 3 = σ 64 3 ∧ s 64 5 = σ 64 5) _ (if_69_2 Is1 (by omega)) (Fs1.up rfl) ⟨es1.1, es1.2.1, es1.2.2⟩ (fun s2 Is2 Fs2 (es2 : s2 63 2 = σ 63 2 ∧ s2 64 3 = σ 64 3 ∧ s2 64 5 = σ 64 5) => ?_))
  clear es1
  refine h_aload_n (pc' := 14) rfl rfl rfl ?_
  refine h_getR (pc' := 17) rfl rfl rfl rfl rfl ?_
  refine h_iconst (pc' := 18) (x := (Int32.ofInt 0)) rfl rfl rfl ?_
  refine h_put (pc' := 21) rfl rfl rfl rfl rfl rfl ci_0 rfl (h_fgt (E := fun s => s 63 2 = σ 63 2 ∧ s 64 3 = σ 64 3 ∧ s 64 5 = σ 64 5) _ (if_72_2 Is2 (by omega)) (Fs2.up rfl) ⟨es2.1, es2.2.1, es2.2.2⟩ (fun s3 Is3 Fs3 (es3 : s3 63 2 = σ 63 2 ∧ s3 64 3 = σ 64 3 ∧ s3 64 5 = σ 64 5) => ?_))
  clear es2
  refine h_aload_n (pc' := 22) rfl rfl rfl ?_
  refine h_iconst (pc' := 23) (x := (Int32.ofInt 0)) rfl rfl rfl ?_
  refine h_put (pc' := 26) rfl rfl rfl rfl rfl rfl ci_0 rfl (h_fgt (E := fun s => s 63 2 = σ 63 2 ∧ s 64 3 = σ 64 3 ∧ s 64 5 = σ 64 5) _ (if_66_9 Is3 (by omega)) (Fs3.up rfl) ⟨es3.1, es3.2.1, es3.2.2⟩ (fun s4 Is4 Fs4 (es4 : s4 63 2 = σ 63 2 ∧ s4 64 3 = σ 64 3 ∧ s4 64 5 = σ 64 5) => ?_))
  clear es3
  refine h_aload_n (pc' := 27) rfl rfl rfl ?_
  refine h_iconst (pc' := 28) (x := (Int32.ofInt 0)) rfl rfl rfl ?_
  refine h_put (pc' := 31) rfl rfl rfl rfl rfl rfl ci_0 rfl (h_fgt (E := fun s => s 63 2 = σ 63 2 ∧ s 64 3 = σ 64 3 ∧ s 64 5 = σ 64 5) _ (if_66_10 Is4 (by omega)) (Fs4.up rfl) ⟨es4.1, es4.2.1, es4.2.2⟩ (fun s5 Is5 Fs5 (es5 : s5 63 2 = σ 63 2 ∧ s5 64 3 = σ 64 3 ∧ s5 64 5 = σ 64 5) => ?_))
  clear es4
  refine h_vret rfl rfl (h_Kn ?_)
  refine h_aload_n (pc' := 8) rfl rfl rfl ?_
  refine h_iconst (pc' := 9) (x := (Int32.ofInt 0)) rfl rfl rfl ?_
  refine h_put (pc' := 12) rfl rfl rfl rfl rfl rfl ci_0 rfl (h_fgt (E := fun s => s 63 2 = 0 ∧ s 64 3 = σ 64 3 ∧ s 64 5 = σ 64 5) _ (if_63_2 Is5 (by omega)) (Fs5.up rfl) ⟨rfl, es5.2.1, es5.2.2⟩ (fun s6 Is6 Fs6 (es6 : s6 63 2 = 0 ∧ s6 64 3 = σ 64 3 ∧ s6 64 5 = σ 64 5) => ?_))
  clear es5
  refine h_aload_n (pc' := 13) rfl rfl rfl ?_
  refine h_iconst (pc' := 14) (x := (Int32.ofInt 0)) rfl rfl rfl ?_
  refine h_put (pc' := 17) rfl rfl rfl rfl rfl rfl ci_0 rfl (h_fgt (E := fun s => s 63 2 = 0 ∧ s 64 3 = σ 64 3 ∧ s 64 5 = σ 64 5) _ (if_63_4 Is6 (h_rgv ci_0)) (Fs6.up rfl) ⟨es6.1, es6.2.1, es6.2.2⟩ (fun s7 Is7 Fs7 (es7 : s7 63 2 = 0 ∧ s7 64 3 = σ 64 3 ∧ s7 64 5 = σ 64 5) => ?_))
  clear es6
  refine h_aload_n (pc' := 18) rfl rfl rfl ?_
  refine h_iconst (pc' := 19) (x := (Int32.ofInt 0)) rfl rfl rfl ?_
  refine h_put (pc' := 22) rfl rfl rfl rfl rfl rfl ci_0 (h_fb ci_0 (by omega)) (h_fgt (E := fun s => s 63 2 = 0 ∧ s 64 3 = σ 64 3 ∧ s 64 5 = σ 64 5) _ (if_63_5 Is7 (by omega)) (Fs7.up rfl) ⟨es7.1, es7.2.1, es7.2.2⟩ (fun s8 Is8 Fs8 (es8 : s8 63 2 = 0 ∧ s8 64 3 = σ 64 3 ∧ s8 64 5 = σ 64 5) => ?_))
  clear es7
  refine h_aload_n (pc' := 23) rfl rfl rfl ?_
  refine h_getR (pc' := 26) rfl rfl rfl rfl rfl ?_
  refine h_call (sp := false) (pc' := 29) (M := [(0, .ref 64)]) rfl rfl rfl rfl rfl rfl rfl rfl ?_
  refine h_aload_n (pc' := 1) rfl rfl rfl ?_
  refine h_iconst (pc' := 2) (x := (Int32.ofInt 0)) rfl rfl rfl ?_
  refine h_put (pc' := 5) rfl rfl rfl rfl rfl rfl ci_0 rfl (h_fgt (E := fun s => s 63 2 = 0 ∧ s 64 3 = σ 64 3 ∧ s 64 5 = σ 64 5) _ (if_64_2 Is8 (by omega)) (Fs8.up rfl) ⟨es8.1, es8.2.1, es8.2.2⟩ (fun s9 Is9 Fs9 (es9 : s9 63 2 = 0 ∧ s9 64 3 = σ 64 3 ∧ s9 64 5 = σ 64 5) => ?_))
  clear es8
  refine h_vret rfl rfl (h_Kn ?_)
  refine h_aload_n (pc' := 30) rfl rfl rfl ?_
  refine h_call (sp := false) (pc' := 33) (M := [(0, .ref 63)]) rfl rfl rfl rfl rfl rfl rfl rfl ?_
  refine v_stepX _ Is9  (fun s11 Is11 Gs11 pcs11 => h_Kn ?_)
  have Fs11 := (Gs11.mono (B := kf_v_readText) rfl).tr Fs9
  rcases pcs11 with pcs11 | pcs11 | pcs11
  · exfalso; omega
  · refine h_iconst (pc' := 34) (x := (Int32.ofInt 0)) rfl rfl rfl ?_
    refine h_istore_n (pc' := 35) (M := [(1, .int (Int32.ofInt 0)), (0, .ref 63)]) rfl rfl rfl rfl ?_
    exact h_wk [(0, .ref 63), (1, .int (Int32.ofInt 0))] ⟨rfl, rfl, trivial⟩ ((v_readText_l ns σ hI  kk 1000000000000) _ Is11 Fs11 (Int32.ofInt 0) _ ci_0 (by omega) (by omega) (by omega))
  · refine h_iconst (pc' := 34) (x := (Int32.ofInt 0)) rfl rfl rfl ?_
    refine h_istore_n (pc' := 35) (M := [(1, .int (Int32.ofInt 0)), (0, .ref 63)]) rfl rfl rfl rfl ?_
    exact h_wk [(0, .ref 63), (1, .int (Int32.ofInt 0))] ⟨rfl, rfl, trivial⟩ ((v_readText_l ns σ hI  kk 1000000000000) _ Is11 Fs11 (Int32.ofInt 0) _ ci_0 (by omega) (by omega) (by omega))
def kf_v_textX : List Nat := [10248, 10249, 10250, 12287, 13311, 13314, 15359, 16383, 16386, 18431, 19455, 20479, 21503, 22527, 23551, 64511, 64514, 64515, 64516, 64517, 65537, 65538, 65539, 65540, 65541, 67592, 67593, 67594, 69631, 70655, 70658, 72703, 73727, 73730, 75775, 76799, 77823, 78847, 79871, 80895, 92162]
set_option maxHeartbeats 100000000 in
theorem v_textX {ns : Nat} (σ : h_S) (hI : h_I σ) {Q : Option Value → h_S → Prop} (kk : ∀ (r : Int32) (b : Int) (hb : r.toInt = b) (τ : h_S), h_I τ → h_F (k_in kf_v_textX) τ σ → (τ 64 1 = 0) → (τ 98 11 = σ 98 11) → Q (some (.int r)) τ) : h_T g_P (g_Y ns) 84 0 [(0, .ref 9)] [] σ Q := by
  have F00 : h_F (k_in kf_v_textX) σ σ := h_F.rf
  refine h_aload_n (pc' := 1) rfl rfl rfl ?_
  refine h_getR (pc' := 4) rfl rfl rfl rfl rfl ?_
  refine h_call (sp := false) (pc' := 7) (M := [(0, .ref 63)]) rfl rfl rfl rfl rfl rfl rfl rfl ?_
  refine v_readText _ hI  (fun s2 Is2 Gs2 => h_Kn ?_)
  have Fs2 := (Gs2.mono (B := kf_v_textX) rfl).tr F00
  have es2_0 : s2 64 1 = σ 64 1 := (Gs2 64 1 rfl).trans rfl
  have es2_1 : s2 98 11 = σ 98 11 := (Gs2 98 11 rfl).trans rfl
  refine h_aload_n (pc' := 8) rfl rfl rfl ?_
  refine h_getR (pc' := 11) rfl rfl rfl rfl rfl ?_
  refine h_getR (pc' := 14) rfl rfl rfl rfl rfl ?_
  refine h_iconst (pc' := 15) (x := (Int32.ofInt 0)) rfl rfl rfl ?_
  refine h_put (pc' := 18) rfl rfl rfl rfl rfl rfl ci_0 rfl (h_fgt (E := fun s => s 64 1 = 0 ∧ s 98 11 = σ 98 11) _ (if_64_1 Is2 (by omega)) (Fs2.up rfl) ⟨rfl, es2_1⟩ (fun s3 Is3 Fs3 (es3 : s3 64 1 = 0 ∧ s3 98 11 = σ 98 11) => ?_))
  clear es2_0 es2_1
  refine h_aload_n (pc' := 19) rfl rfl rfl ?_
  refine h_getR (pc' := 22) rfl rfl rfl rfl rfl ?_
  refine h_getI (pc' := 25) (v := s3 63 2) rfl rfl rfl rfl rfl rfl (fun z4 hz4 => ?_)
  have tz4 := tf_63_2 Is3
  refine h_zeq (tg := 39) (pc' := 28) rfl rfl rfl hz4 (fun c5 => ?_) (fun c5 => ?_)
  · refine h_aload_n (pc' := 40) rfl rfl rfl ?_
    refine h_getR (pc' := 43) rfl rfl rfl rfl rfl ?_
    refine h_aload_n (pc' := 44) rfl rfl rfl ?_
    refine h_getR (pc' := 47) rfl rfl rfl rfl rfl ?_
    refine h_getR (pc' := 50) rfl rfl rfl rfl rfl ?_
    refine h_call (sp := false) (pc' := 53) (M := [(0, .ref 10), (1, .ref 66)]) rfl rfl rfl rfl rfl rfl rfl rfl ?_
    refine w_3_10_66 _ Is3  (fun s7 Is7 Gs7 => h_Kn ?_)
    have Fs7 := (Gs7.mono (B := kf_v_textX) rfl).tr Fs3
    have es7_0 : s7 64 1 = 0 := (Gs7 64 1 rfl).trans es3.1
    have es7_1 : s7 98 11 = σ 98 11 := (Gs7 98 11 rfl).trans es3.2
    clear es3
    refine h_aload_n (pc' := 54) rfl rfl rfl ?_
    refine h_getR (pc' := 57) rfl rfl rfl rfl rfl ?_
    refine h_iconst (pc' := 58) (x := (Int32.ofInt 0)) rfl rfl rfl ?_
    refine h_put (pc' := 61) rfl rfl rfl rfl rfl rfl ci_0 rfl (h_fgt (E := fun s => s 64 1 = 0 ∧ s 98 11 = σ 98 11) _ (if_90_2 Is7 (by omega)) (Fs7.up rfl) ⟨es7_0, es7_1⟩ (fun s8 Is8 Fs8 (es8 : s8 64 1 = 0 ∧ s8 98 11 = σ 98 11) => ?_))
    clear es7_0 es7_1
    refine h_aload_n (pc' := 62) rfl rfl rfl ?_
    refine h_getR (pc' := 65) rfl rfl rfl rfl rfl ?_
    refine h_iconst (pc' := 66) (x := (Int32.ofInt 0)) rfl rfl rfl ?_
    refine h_iconst (pc' := 67) (x := (Int32.ofInt 0)) rfl rfl rfl ?_
    refine h_bast (pc' := 68) rfl rfl rfl rfl ci_0 (by omega) (by omega) ci_0 (by omega) (h_fgt (E := fun s => s 64 1 = 0 ∧ s 98 11 = σ 98 11) _ (in_62 Is8 (by omega)) (Fs8.up rfl) ⟨es8.1, es8.2⟩ (fun s9 Is9 Fs9 (es9 : s9 64 1 = 0 ∧ s9 98 11 = σ 98 11) => ?_))
    clear es8
    refine h_aload_n (pc' := 69) rfl rfl rfl ?_
    refine h_getR (pc' := 72) rfl rfl rfl rfl rfl ?_
    refine h_iconst (pc' := 73) (x := (Int32.ofInt 1)) rfl rfl rfl ?_
    refine h_iconst (pc' := 74) (x := (Int32.ofInt 0)) rfl rfl rfl ?_
    refine h_bast (pc' := 75) rfl rfl rfl rfl ci_1 (by omega) (by omega) ci_0 (by omega) (h_fgt (E := fun s => s 64 1 = 0 ∧ s 98 11 = σ 98 11) _ (in_62 Is9 (by omega)) (Fs9.up rfl) ⟨es9.1, es9.2⟩ (fun s10 Is10 Fs10 (es10 : s10 64 1 = 0 ∧ s10 98 11 = σ 98 11) => ?_))
    clear es9
    refine h_aload_n (pc' := 76) rfl rfl rfl ?_
    refine h_getR (pc' := 79) rfl rfl rfl rfl rfl ?_
    refine h_getI (pc' := 82) (v := s10 63 4) rfl rfl rfl rfl rfl rfl (fun z11 hz11 => ?_)
    have tz11 := tf_63_4 Is10
    exact h_iret rfl rfl (kk _ _ hz11 _ Is10 Fs10 (by omega) (by omega))
  · refine h_bipush (pc' := 30) (x := (Int32.ofInt (-10))) rfl rfl cb_m10 ?_
    refine h_aload_n (pc' := 31) rfl rfl rfl ?_
    refine h_getR (pc' := 34) rfl rfl rfl rfl rfl ?_
    refine h_getI (pc' := 37) (v := s3 63 3) rfl rfl rfl rfl rfl rfl (fun z12 hz12 => ?_)
    have tz12 := tf_63_3 Is3
    refine h_isubA (pc' := 38) rfl rfl (fun z13 hz13 => ?_)
    exact h_iret rfl rfl (kk _ _ rfl _ Is3 Fs3 (by omega) (by omega))
def kf_v_endX : List Nat := [65537]
set_option maxHeartbeats 100000000 in
theorem v_endX {ns : Nat} (σ : h_S) (hI : h_I σ) (x0 : Int32) (a0 : Int) (hx0 : x0.toInt = a0) {Q : Option Value → h_S → Prop} (kk : ∀ (r : Int32) (b : Int) (hb : r.toInt = b) (τ : h_S), h_I τ → h_F (k_in kf_v_endX) τ σ → ((-1) ≤ b ∧ b ≤ 160) → ((0 ≤ a0 ∧ a0 ≤ σ 64 1 ∧ b = σ 64 1 ∧ τ 64 1 = a0) ∨ ((a0 < 0 ∨ σ 64 1 < a0) ∧ b = -1 ∧ τ 64 1 = σ 64 1)) → (τ 98 11 = σ 98 11) → Q (some (.int r)) τ) : h_T g_P (g_Y ns) 83 0 [(0, .ref 9), (1, .int x0)] [] σ Q := by
  have F00 : h_F (k_in kf_v_endX) σ σ := h_F.rf
  refine h_iload_n (pc' := 1) rfl rfl rfl ?_
  refine h_zlt (tg := 18) (pc' := 4) rfl rfl rfl hx0 (fun c1 => ?_) (fun c1 => ?_)
  · refine h_iconst (pc' := 19) (x := (Int32.ofInt (-1))) rfl rfl rfl ?_
    exact h_iret rfl rfl (kk _ _ ci_m1 _ hI F00 (by omega) (by omega) (by omega))
  · refine h_iload_n (pc' := 5) rfl rfl rfl ?_
    refine h_aload_n (pc' := 6) rfl rfl rfl ?_
    refine h_getR (pc' := 9) rfl rfl rfl rfl rfl ?_
    refine h_getR (pc' := 12) rfl rfl rfl rfl rfl ?_
    refine h_getI (pc' := 15) (v := σ 64 1) rfl rfl rfl rfl rfl rfl (fun z2 hz2 => ?_)
    have tz2 := tf_64_1 hI
    refine h_cle (tg := 20) (pc' := 18) rfl rfl rfl hx0 hz2 (fun c3 => ?_) (fun c3 => ?_)
    · refine h_aload_n (pc' := 21) rfl rfl rfl ?_
      refine h_getR (pc' := 24) rfl rfl rfl rfl rfl ?_
      refine h_getR (pc' := 27) rfl rfl rfl rfl rfl ?_
      refine h_getI (pc' := 30) (v := σ 64 1) rfl rfl rfl rfl rfl rfl (fun z4 hz4 => ?_)
      have tz4 := tf_64_1 hI
      refine h_istore_n (pc' := 31) (M := [(2, .int z4), (0, .ref 9), (1, .int x0)]) rfl rfl rfl rfl ?_
      refine h_aload_n (pc' := 32) rfl rfl rfl ?_
      refine h_getR (pc' := 35) rfl rfl rfl rfl rfl ?_
      refine h_getR (pc' := 38) rfl rfl rfl rfl rfl ?_
      refine h_iload_n (pc' := 39) rfl rfl rfl ?_
      refine h_put (pc' := 42) rfl rfl rfl rfl rfl rfl hx0 rfl (h_fgt (E := fun s => s 64 1 = a0 ∧ s 98 11 = σ 98 11) _ (if_64_1 hI (by omega)) (F00.up rfl) ⟨rfl, rfl⟩ (fun s5 Is5 Fs5 (es5 : s5 64 1 = a0 ∧ s5 98 11 = σ 98 11) => ?_))
      refine h_iload_n (pc' := 43) rfl rfl rfl ?_
      exact h_iret rfl rfl (kk _ _ hz4 _ Is5 Fs5 (by omega) (by omega) (by omega))
    · refine h_iconst (pc' := 19) (x := (Int32.ofInt (-1))) rfl rfl rfl ?_
      exact h_iret rfl rfl (kk _ _ ci_m1 _ hI F00 (by omega) (by omega) (by omega))
