set_option maxHeartbeats 100000000 in
theorem n_isName0 {ns : Nat} (σ : h_S) (hI : h_I σ) {Q : Option Value → h_S → Prop} (kk : ∀ (r : Int32) (b : Int) (hb : r.toInt = b), (0 ≤ b ∧ b ≤ 1) → ((b = 1 ∧ g_nm0 (σ 65) (σ 64 4) (σ 64 2 - σ 64 4)) ∨ (b = 0 ∧ ¬ g_nm0 (σ 65) (σ 64 4) (σ 64 2 - σ 64 4))) → Q (some (.int r)) σ) : h_T g_P (g_Y ns) 77 0 [(0, .ref 64), (1, .ref 1)] [] σ Q := by
  have ge0 := tf_64_2 hI
  have ge1 := tf_64_4 hI
  refine h_aload_n (pc' := 1) rfl rfl rfl ?_
  refine h_getI (pc' := 4) (v := σ 64 2) rfl rfl rfl rfl rfl rfl (fun z1 hz1 => ?_)
  have tz1 := tf_64_2 hI
  refine h_aload_n (pc' := 5) rfl rfl rfl ?_
  refine h_getI (pc' := 8) (v := σ 64 4) rfl rfl rfl rfl rfl rfl (fun z2 hz2 => ?_)
  have tz2 := tf_64_4 hI
  refine h_isub (pc' := 9) rfl rfl hz1 hz2 rfl (by omega) (by omega) (fun z3 hz3 => ?_)
  clear hz1 hz2
  refine h_aload_n (pc' := 10) rfl rfl rfl ?_
  refine h_str (pc' := 13) (x := (Int32.ofInt 5)) rfl rfl rfl rfl rfl ?_
  refine h_ceq (tg := 18) (pc' := 16) rfl rfl rfl hz3 ci_5 (fun c4 => ?_) (fun c4 => ?_)
  · clear hz3
    refine h_iconst (pc' := 19) (x := (Int32.ofInt 0)) rfl rfl rfl ?_
    refine h_istore_n (pc' := 20) (M := [(2, .int (Int32.ofInt 0)), (0, .ref 64), (1, .ref 1)]) rfl rfl rfl rfl ?_
    refine h_iload_n (pc' := 21) rfl rfl rfl ?_
    refine h_aload_n (pc' := 22) rfl rfl rfl ?_
    refine h_str (pc' := 25) (x := (Int32.ofInt 5)) rfl rfl rfl rfl rfl ?_
    refine h_cge (tg := 55) (pc' := 28) rfl rfl rfl ci_0 ci_5 (fun c5 => absurd c5 (by omega)) (fun c5 => ?_)
    refine h_aload_n (pc' := 29) rfl rfl rfl ?_
    refine h_getR (pc' := 32) rfl rfl rfl rfl rfl ?_
    refine h_aload_n (pc' := 33) rfl rfl rfl ?_
    refine h_getI (pc' := 36) (v := σ 64 4) rfl rfl rfl rfl rfl rfl (fun z6 hz6 => ?_)
    refine h_iload_n (pc' := 37) rfl rfl rfl ?_
    refine h_iadd (pc' := 38) rfl rfl hz6 ci_0 rfl (by omega) (by omega) (fun z7 hz7 => ?_)
    clear hz6
    refine h_iald (pc' := 39) (v := σ 65 ((σ 64 4) + 0)) rfl rfl rfl hz7 (by omega) (by omega) rfl (fun z8 hz8 => ?_)
    have tz8 := ty_65 hI ((σ 64 4) + 0)
    clear hz7
    refine h_aload_n (pc' := 40) rfl rfl rfl ?_
    refine h_iload_n (pc' := 41) rfl rfl rfl ?_
    refine h_str (pc' := 44) (x := (Int32.ofInt 112)) rfl rfl rfl rfl rfl ?_
    refine h_ceq (tg := 49) (pc' := 47) rfl rfl rfl hz8 ci_112 (fun c9 => ?_) (fun c9 => ?_)
    · clear hz8
      refine h_iinc (pc' := 52) (b := 1) (M := fun z10 => [(2, .int z10), (0, .ref 64), (1, .ref 1)]) rfl rfl rfl rfl ci_0 ci_1 rfl (by omega) (by omega) (fun _ => rfl) (fun z10 hz10 => ?_)
      refine h_goto (pc' := 20) rfl rfl ?_
      refine h_iload_n (pc' := 21) rfl rfl rfl ?_
      refine h_aload_n (pc' := 22) rfl rfl rfl ?_
      refine h_str (pc' := 25) (x := (Int32.ofInt 5)) rfl rfl rfl rfl rfl ?_
      refine h_cge (tg := 55) (pc' := 28) rfl rfl rfl hz10 ci_5 (fun c11 => absurd c11 (by omega)) (fun c11 => ?_)
      refine h_aload_n (pc' := 29) rfl rfl rfl ?_
      refine h_getR (pc' := 32) rfl rfl rfl rfl rfl ?_
      refine h_aload_n (pc' := 33) rfl rfl rfl ?_
      refine h_getI (pc' := 36) (v := σ 64 4) rfl rfl rfl rfl rfl rfl (fun z12 hz12 => ?_)
      refine h_iload_n (pc' := 37) rfl rfl rfl ?_
      refine h_iadd (pc' := 38) rfl rfl hz12 hz10 rfl (by omega) (by omega) (fun z13 hz13 => ?_)
      clear hz12
      refine h_iald (pc' := 39) (v := σ 65 ((σ 64 4) + 1)) rfl rfl rfl hz13 (by omega) (by omega) rfl (fun z14 hz14 => ?_)
      have tz14 := ty_65 hI ((σ 64 4) + 1)
      clear hz13
      refine h_aload_n (pc' := 40) rfl rfl rfl ?_
      refine h_iload_n (pc' := 41) rfl rfl rfl ?_
      have qz10 : z10 = (Int32.ofInt 1) := h_lit hz10 ci_1
      subst qz10
      refine h_str (pc' := 44) (x := (Int32.ofInt 108)) rfl rfl rfl rfl rfl ?_
      clear hz10
      refine h_ceq (tg := 49) (pc' := 47) rfl rfl rfl hz14 ci_108 (fun c15 => ?_) (fun c15 => ?_)
      · clear hz14
        refine h_iinc (pc' := 52) (b := 2) (M := fun z16 => [(2, .int z16), (0, .ref 64), (1, .ref 1)]) rfl rfl rfl rfl ci_1 ci_1 rfl (by omega) (by omega) (fun _ => rfl) (fun z16 hz16 => ?_)
        refine h_goto (pc' := 20) rfl rfl ?_
        refine h_iload_n (pc' := 21) rfl rfl rfl ?_
        refine h_aload_n (pc' := 22) rfl rfl rfl ?_
        refine h_str (pc' := 25) (x := (Int32.ofInt 5)) rfl rfl rfl rfl rfl ?_
        refine h_cge (tg := 55) (pc' := 28) rfl rfl rfl hz16 ci_5 (fun c17 => absurd c17 (by omega)) (fun c17 => ?_)
        refine h_aload_n (pc' := 29) rfl rfl rfl ?_
        refine h_getR (pc' := 32) rfl rfl rfl rfl rfl ?_
        refine h_aload_n (pc' := 33) rfl rfl rfl ?_
        refine h_getI (pc' := 36) (v := σ 64 4) rfl rfl rfl rfl rfl rfl (fun z18 hz18 => ?_)
        refine h_iload_n (pc' := 37) rfl rfl rfl ?_
        refine h_iadd (pc' := 38) rfl rfl hz18 hz16 rfl (by omega) (by omega) (fun z19 hz19 => ?_)
        clear hz18
        refine h_iald (pc' := 39) (v := σ 65 ((σ 64 4) + 2)) rfl rfl rfl hz19 (by omega) (by omega) rfl (fun z20 hz20 => ?_)
        have tz20 := ty_65 hI ((σ 64 4) + 2)
        clear hz19
        refine h_aload_n (pc' := 40) rfl rfl rfl ?_
        refine h_iload_n (pc' := 41) rfl rfl rfl ?_
        have qz16 : z16 = (Int32.ofInt 2) := h_lit hz16 ci_2
        subst qz16
        refine h_str (pc' := 44) (x := (Int32.ofInt 97)) rfl rfl rfl rfl rfl ?_
        clear hz16
        refine h_ceq (tg := 49) (pc' := 47) rfl rfl rfl hz20 ci_97 (fun c21 => ?_) (fun c21 => ?_)
        · clear hz20
          refine h_iinc (pc' := 52) (b := 3) (M := fun z22 => [(2, .int z22), (0, .ref 64), (1, .ref 1)]) rfl rfl rfl rfl ci_2 ci_1 rfl (by omega) (by omega) (fun _ => rfl) (fun z22 hz22 => ?_)
          refine h_goto (pc' := 20) rfl rfl ?_
          refine h_iload_n (pc' := 21) rfl rfl rfl ?_
          refine h_aload_n (pc' := 22) rfl rfl rfl ?_
          refine h_str (pc' := 25) (x := (Int32.ofInt 5)) rfl rfl rfl rfl rfl ?_
          refine h_cge (tg := 55) (pc' := 28) rfl rfl rfl hz22 ci_5 (fun c23 => absurd c23 (by omega)) (fun c23 => ?_)
          refine h_aload_n (pc' := 29) rfl rfl rfl ?_
          refine h_getR (pc' := 32) rfl rfl rfl rfl rfl ?_
          refine h_aload_n (pc' := 33) rfl rfl rfl ?_
          refine h_getI (pc' := 36) (v := σ 64 4) rfl rfl rfl rfl rfl rfl (fun z24 hz24 => ?_)
          refine h_iload_n (pc' := 37) rfl rfl rfl ?_
          refine h_iadd (pc' := 38) rfl rfl hz24 hz22 rfl (by omega) (by omega) (fun z25 hz25 => ?_)
          clear hz24
          refine h_iald (pc' := 39) (v := σ 65 ((σ 64 4) + 3)) rfl rfl rfl hz25 (by omega) (by omega) rfl (fun z26 hz26 => ?_)
          have tz26 := ty_65 hI ((σ 64 4) + 3)
          clear hz25
          refine h_aload_n (pc' := 40) rfl rfl rfl ?_
          refine h_iload_n (pc' := 41) rfl rfl rfl ?_
          have qz22 : z22 = (Int32.ofInt 3) := h_lit hz22 ci_3
          subst qz22
          refine h_str (pc' := 44) (x := (Int32.ofInt 105)) rfl rfl rfl rfl rfl ?_
          clear hz22
          refine h_ceq (tg := 49) (pc' := 47) rfl rfl rfl hz26 ci_105 (fun c27 => ?_) (fun c27 => ?_)
          · clear hz26
            refine h_iinc (pc' := 52) (b := 4) (M := fun z28 => [(2, .int z28), (0, .ref 64), (1, .ref 1)]) rfl rfl rfl rfl ci_3 ci_1 rfl (by omega) (by omega) (fun _ => rfl) (fun z28 hz28 => ?_)
            refine h_goto (pc' := 20) rfl rfl ?_
            refine h_iload_n (pc' := 21) rfl rfl rfl ?_
            refine h_aload_n (pc' := 22) rfl rfl rfl ?_
            refine h_str (pc' := 25) (x := (Int32.ofInt 5)) rfl rfl rfl rfl rfl ?_
            refine h_cge (tg := 55) (pc' := 28) rfl rfl rfl hz28 ci_5 (fun c29 => absurd c29 (by omega)) (fun c29 => ?_)
            refine h_aload_n (pc' := 29) rfl rfl rfl ?_
            refine h_getR (pc' := 32) rfl rfl rfl rfl rfl ?_
            refine h_aload_n (pc' := 33) rfl rfl rfl ?_
            refine h_getI (pc' := 36) (v := σ 64 4) rfl rfl rfl rfl rfl rfl (fun z30 hz30 => ?_)
            refine h_iload_n (pc' := 37) rfl rfl rfl ?_
            refine h_iadd (pc' := 38) rfl rfl hz30 hz28 rfl (by omega) (by omega) (fun z31 hz31 => ?_)
            clear hz30
            refine h_iald (pc' := 39) (v := σ 65 ((σ 64 4) + 4)) rfl rfl rfl hz31 (by omega) (by omega) rfl (fun z32 hz32 => ?_)
            have tz32 := ty_65 hI ((σ 64 4) + 4)
            clear hz31
            refine h_aload_n (pc' := 40) rfl rfl rfl ?_
            refine h_iload_n (pc' := 41) rfl rfl rfl ?_
            have qz28 : z28 = (Int32.ofInt 4) := h_lit hz28 ci_4
            subst qz28
            refine h_str (pc' := 44) (x := (Int32.ofInt 110)) rfl rfl rfl rfl rfl ?_
            clear hz28
            refine h_ceq (tg := 49) (pc' := 47) rfl rfl rfl hz32 ci_110 (fun c33 => ?_) (fun c33 => ?_)
            · clear hz32
              refine h_iinc (pc' := 52) (b := 5) (M := fun z34 => [(2, .int z34), (0, .ref 64), (1, .ref 1)]) rfl rfl rfl rfl ci_4 ci_1 rfl (by omega) (by omega) (fun _ => rfl) (fun z34 hz34 => ?_)
              refine h_goto (pc' := 20) rfl rfl ?_
              refine h_iload_n (pc' := 21) rfl rfl rfl ?_
              refine h_aload_n (pc' := 22) rfl rfl rfl ?_
              refine h_str (pc' := 25) (x := (Int32.ofInt 5)) rfl rfl rfl rfl rfl ?_
              refine h_cge (tg := 55) (pc' := 28) rfl rfl rfl hz34 ci_5 (fun c35 => ?_) (fun c35 => absurd c35 (by omega))
              refine h_iconst (pc' := 56) (x := (Int32.ofInt 1)) rfl rfl rfl ?_
              exact h_zret rfl rfl ci_1 (by omega) (kk _ _ ci_1 (by omega) (Or.inl ⟨rfl, by omega, by omega, by omega, by omega, by omega, by omega⟩))
            · clear hz32
              refine h_iconst (pc' := 48) (x := (Int32.ofInt 0)) rfl rfl rfl ?_
              exact h_zret rfl rfl ci_0 (by omega) (kk _ _ ci_0 (by omega) (Or.inr ⟨rfl, fun h => by unfold g_nm0 at h; omega⟩))
          · clear hz26
            refine h_iconst (pc' := 48) (x := (Int32.ofInt 0)) rfl rfl rfl ?_
            exact h_zret rfl rfl ci_0 (by omega) (kk _ _ ci_0 (by omega) (Or.inr ⟨rfl, fun h => by unfold g_nm0 at h; omega⟩))
        · clear hz20
          refine h_iconst (pc' := 48) (x := (Int32.ofInt 0)) rfl rfl rfl ?_
          exact h_zret rfl rfl ci_0 (by omega) (kk _ _ ci_0 (by omega) (Or.inr ⟨rfl, fun h => by unfold g_nm0 at h; omega⟩))
      · clear hz14
        refine h_iconst (pc' := 48) (x := (Int32.ofInt 0)) rfl rfl rfl ?_
        exact h_zret rfl rfl ci_0 (by omega) (kk _ _ ci_0 (by omega) (Or.inr ⟨rfl, fun h => by unfold g_nm0 at h; omega⟩))
    · clear hz8
      refine h_iconst (pc' := 48) (x := (Int32.ofInt 0)) rfl rfl rfl ?_
      exact h_zret rfl rfl ci_0 (by omega) (kk _ _ ci_0 (by omega) (Or.inr ⟨rfl, fun h => by unfold g_nm0 at h; omega⟩))
  · clear hz3
    refine h_iconst (pc' := 17) (x := (Int32.ofInt 0)) rfl rfl rfl ?_
    exact h_zret rfl rfl ci_0 (by omega) (kk _ _ ci_0 (by omega) (Or.inr ⟨rfl, fun h => by unfold g_nm0 at h; omega⟩))
set_option maxHeartbeats 100000000 in
theorem n_isName1 {ns : Nat} (σ : h_S) (hI : h_I σ) {Q : Option Value → h_S → Prop} (kk : ∀ (r : Int32) (b : Int) (hb : r.toInt = b), (0 ≤ b ∧ b ≤ 1) → ((b = 1 ∧ g_nm1 (σ 65) (σ 64 4) (σ 64 2 - σ 64 4)) ∨ (b = 0 ∧ ¬ g_nm1 (σ 65) (σ 64 4) (σ 64 2 - σ 64 4))) → Q (some (.int r)) σ) : h_T g_P (g_Y ns) 77 0 [(0, .ref 64), (1, .ref 2)] [] σ Q := by
  have ge0 := tf_64_2 hI
  have ge1 := tf_64_4 hI
  refine h_aload_n (pc' := 1) rfl rfl rfl ?_
  refine h_getI (pc' := 4) (v := σ 64 2) rfl rfl rfl rfl rfl rfl (fun z1 hz1 => ?_)
  have tz1 := tf_64_2 hI
  refine h_aload_n (pc' := 5) rfl rfl rfl ?_
  refine h_getI (pc' := 8) (v := σ 64 4) rfl rfl rfl rfl rfl rfl (fun z2 hz2 => ?_)
  have tz2 := tf_64_4 hI
  refine h_isub (pc' := 9) rfl rfl hz1 hz2 rfl (by omega) (by omega) (fun z3 hz3 => ?_)
  clear hz1 hz2
  refine h_aload_n (pc' := 10) rfl rfl rfl ?_
  refine h_str (pc' := 13) (x := (Int32.ofInt 7)) rfl rfl rfl rfl rfl ?_
  refine h_ceq (tg := 18) (pc' := 16) rfl rfl rfl hz3 ci_7 (fun c4 => ?_) (fun c4 => ?_)
  · clear hz3
    refine h_iconst (pc' := 19) (x := (Int32.ofInt 0)) rfl rfl rfl ?_
    refine h_istore_n (pc' := 20) (M := [(2, .int (Int32.ofInt 0)), (0, .ref 64), (1, .ref 2)]) rfl rfl rfl rfl ?_
    refine h_iload_n (pc' := 21) rfl rfl rfl ?_
    refine h_aload_n (pc' := 22) rfl rfl rfl ?_
    refine h_str (pc' := 25) (x := (Int32.ofInt 7)) rfl rfl rfl rfl rfl ?_
    refine h_cge (tg := 55) (pc' := 28) rfl rfl rfl ci_0 ci_7 (fun c5 => absurd c5 (by omega)) (fun c5 => ?_)
    refine h_aload_n (pc' := 29) rfl rfl rfl ?_
    refine h_getR (pc' := 32) rfl rfl rfl rfl rfl ?_
    refine h_aload_n (pc' := 33) rfl rfl rfl ?_
    refine h_getI (pc' := 36) (v := σ 64 4) rfl rfl rfl rfl rfl rfl (fun z6 hz6 => ?_)
    refine h_iload_n (pc' := 37) rfl rfl rfl ?_
    refine h_iadd (pc' := 38) rfl rfl hz6 ci_0 rfl (by omega) (by omega) (fun z7 hz7 => ?_)
    clear hz6
    refine h_iald (pc' := 39) (v := σ 65 ((σ 64 4) + 0)) rfl rfl rfl hz7 (by omega) (by omega) rfl (fun z8 hz8 => ?_)
    have tz8 := ty_65 hI ((σ 64 4) + 0)
    clear hz7
    refine h_aload_n (pc' := 40) rfl rfl rfl ?_
    refine h_iload_n (pc' := 41) rfl rfl rfl ?_
    refine h_str (pc' := 44) (x := (Int32.ofInt 97)) rfl rfl rfl rfl rfl ?_
    refine h_ceq (tg := 49) (pc' := 47) rfl rfl rfl hz8 ci_97 (fun c9 => ?_) (fun c9 => ?_)
    · clear hz8
      refine h_iinc (pc' := 52) (b := 1) (M := fun z10 => [(2, .int z10), (0, .ref 64), (1, .ref 2)]) rfl rfl rfl rfl ci_0 ci_1 rfl (by omega) (by omega) (fun _ => rfl) (fun z10 hz10 => ?_)
      refine h_goto (pc' := 20) rfl rfl ?_
      refine h_iload_n (pc' := 21) rfl rfl rfl ?_
      refine h_aload_n (pc' := 22) rfl rfl rfl ?_
      refine h_str (pc' := 25) (x := (Int32.ofInt 7)) rfl rfl rfl rfl rfl ?_
      refine h_cge (tg := 55) (pc' := 28) rfl rfl rfl hz10 ci_7 (fun c11 => absurd c11 (by omega)) (fun c11 => ?_)
      refine h_aload_n (pc' := 29) rfl rfl rfl ?_
      refine h_getR (pc' := 32) rfl rfl rfl rfl rfl ?_
      refine h_aload_n (pc' := 33) rfl rfl rfl ?_
      refine h_getI (pc' := 36) (v := σ 64 4) rfl rfl rfl rfl rfl rfl (fun z12 hz12 => ?_)
      refine h_iload_n (pc' := 37) rfl rfl rfl ?_
      refine h_iadd (pc' := 38) rfl rfl hz12 hz10 rfl (by omega) (by omega) (fun z13 hz13 => ?_)
      clear hz12
      refine h_iald (pc' := 39) (v := σ 65 ((σ 64 4) + 1)) rfl rfl rfl hz13 (by omega) (by omega) rfl (fun z14 hz14 => ?_)
      have tz14 := ty_65 hI ((σ 64 4) + 1)
      clear hz13
      refine h_aload_n (pc' := 40) rfl rfl rfl ?_
      refine h_iload_n (pc' := 41) rfl rfl rfl ?_
      have qz10 : z10 = (Int32.ofInt 1) := h_lit hz10 ci_1
      subst qz10
      refine h_str (pc' := 44) (x := (Int32.ofInt 100)) rfl rfl rfl rfl rfl ?_
      clear hz10
      refine h_ceq (tg := 49) (pc' := 47) rfl rfl rfl hz14 ci_100 (fun c15 => ?_) (fun c15 => ?_)
      · clear hz14
        refine h_iinc (pc' := 52) (b := 2) (M := fun z16 => [(2, .int z16), (0, .ref 64), (1, .ref 2)]) rfl rfl rfl rfl ci_1 ci_1 rfl (by omega) (by omega) (fun _ => rfl) (fun z16 hz16 => ?_)
        refine h_goto (pc' := 20) rfl rfl ?_
        refine h_iload_n (pc' := 21) rfl rfl rfl ?_
        refine h_aload_n (pc' := 22) rfl rfl rfl ?_
        refine h_str (pc' := 25) (x := (Int32.ofInt 7)) rfl rfl rfl rfl rfl ?_
        refine h_cge (tg := 55) (pc' := 28) rfl rfl rfl hz16 ci_7 (fun c17 => absurd c17 (by omega)) (fun c17 => ?_)
        refine h_aload_n (pc' := 29) rfl rfl rfl ?_
        refine h_getR (pc' := 32) rfl rfl rfl rfl rfl ?_
        refine h_aload_n (pc' := 33) rfl rfl rfl ?_
        refine h_getI (pc' := 36) (v := σ 64 4) rfl rfl rfl rfl rfl rfl (fun z18 hz18 => ?_)
        refine h_iload_n (pc' := 37) rfl rfl rfl ?_
        refine h_iadd (pc' := 38) rfl rfl hz18 hz16 rfl (by omega) (by omega) (fun z19 hz19 => ?_)
        clear hz18
        refine h_iald (pc' := 39) (v := σ 65 ((σ 64 4) + 2)) rfl rfl rfl hz19 (by omega) (by omega) rfl (fun z20 hz20 => ?_)
        have tz20 := ty_65 hI ((σ 64 4) + 2)
        clear hz19
        refine h_aload_n (pc' := 40) rfl rfl rfl ?_
        refine h_iload_n (pc' := 41) rfl rfl rfl ?_
        have qz16 : z16 = (Int32.ofInt 2) := h_lit hz16 ci_2
        subst qz16
        refine h_str (pc' := 44) (x := (Int32.ofInt 111)) rfl rfl rfl rfl rfl ?_
        clear hz16
        refine h_ceq (tg := 49) (pc' := 47) rfl rfl rfl hz20 ci_111 (fun c21 => ?_) (fun c21 => ?_)
        · clear hz20
          refine h_iinc (pc' := 52) (b := 3) (M := fun z22 => [(2, .int z22), (0, .ref 64), (1, .ref 2)]) rfl rfl rfl rfl ci_2 ci_1 rfl (by omega) (by omega) (fun _ => rfl) (fun z22 hz22 => ?_)
          refine h_goto (pc' := 20) rfl rfl ?_
          refine h_iload_n (pc' := 21) rfl rfl rfl ?_
          refine h_aload_n (pc' := 22) rfl rfl rfl ?_
          refine h_str (pc' := 25) (x := (Int32.ofInt 7)) rfl rfl rfl rfl rfl ?_
          refine h_cge (tg := 55) (pc' := 28) rfl rfl rfl hz22 ci_7 (fun c23 => absurd c23 (by omega)) (fun c23 => ?_)
          refine h_aload_n (pc' := 29) rfl rfl rfl ?_
          refine h_getR (pc' := 32) rfl rfl rfl rfl rfl ?_
          refine h_aload_n (pc' := 33) rfl rfl rfl ?_
          refine h_getI (pc' := 36) (v := σ 64 4) rfl rfl rfl rfl rfl rfl (fun z24 hz24 => ?_)
          refine h_iload_n (pc' := 37) rfl rfl rfl ?_
          refine h_iadd (pc' := 38) rfl rfl hz24 hz22 rfl (by omega) (by omega) (fun z25 hz25 => ?_)
          clear hz24
          refine h_iald (pc' := 39) (v := σ 65 ((σ 64 4) + 3)) rfl rfl rfl hz25 (by omega) (by omega) rfl (fun z26 hz26 => ?_)
          have tz26 := ty_65 hI ((σ 64 4) + 3)
          clear hz25
          refine h_aload_n (pc' := 40) rfl rfl rfl ?_
          refine h_iload_n (pc' := 41) rfl rfl rfl ?_
          have qz22 : z22 = (Int32.ofInt 3) := h_lit hz22 ci_3
          subst qz22
          refine h_str (pc' := 44) (x := (Int32.ofInt 112)) rfl rfl rfl rfl rfl ?_
          clear hz22
          refine h_ceq (tg := 49) (pc' := 47) rfl rfl rfl hz26 ci_112 (fun c27 => ?_) (fun c27 => ?_)
          · clear hz26
            refine h_iinc (pc' := 52) (b := 4) (M := fun z28 => [(2, .int z28), (0, .ref 64), (1, .ref 2)]) rfl rfl rfl rfl ci_3 ci_1 rfl (by omega) (by omega) (fun _ => rfl) (fun z28 hz28 => ?_)
            refine h_goto (pc' := 20) rfl rfl ?_
            refine h_iload_n (pc' := 21) rfl rfl rfl ?_
            refine h_aload_n (pc' := 22) rfl rfl rfl ?_
            refine h_str (pc' := 25) (x := (Int32.ofInt 7)) rfl rfl rfl rfl rfl ?_
            refine h_cge (tg := 55) (pc' := 28) rfl rfl rfl hz28 ci_7 (fun c29 => absurd c29 (by omega)) (fun c29 => ?_)
            refine h_aload_n (pc' := 29) rfl rfl rfl ?_
            refine h_getR (pc' := 32) rfl rfl rfl rfl rfl ?_
            refine h_aload_n (pc' := 33) rfl rfl rfl ?_
            refine h_getI (pc' := 36) (v := σ 64 4) rfl rfl rfl rfl rfl rfl (fun z30 hz30 => ?_)
            refine h_iload_n (pc' := 37) rfl rfl rfl ?_
            refine h_iadd (pc' := 38) rfl rfl hz30 hz28 rfl (by omega) (by omega) (fun z31 hz31 => ?_)
            clear hz30
            refine h_iald (pc' := 39) (v := σ 65 ((σ 64 4) + 4)) rfl rfl rfl hz31 (by omega) (by omega) rfl (fun z32 hz32 => ?_)
            have tz32 := ty_65 hI ((σ 64 4) + 4)
            clear hz31
            refine h_aload_n (pc' := 40) rfl rfl rfl ?_
            refine h_iload_n (pc' := 41) rfl rfl rfl ?_
            have qz28 : z28 = (Int32.ofInt 4) := h_lit hz28 ci_4
            subst qz28
            refine h_str (pc' := 44) (x := (Int32.ofInt 116)) rfl rfl rfl rfl rfl ?_
            clear hz28
            refine h_ceq (tg := 49) (pc' := 47) rfl rfl rfl hz32 ci_116 (fun c33 => ?_) (fun c33 => ?_)
            · clear hz32
              refine h_iinc (pc' := 52) (b := 5) (M := fun z34 => [(2, .int z34), (0, .ref 64), (1, .ref 2)]) rfl rfl rfl rfl ci_4 ci_1 rfl (by omega) (by omega) (fun _ => rfl) (fun z34 hz34 => ?_)
              refine h_goto (pc' := 20) rfl rfl ?_
              refine h_iload_n (pc' := 21) rfl rfl rfl ?_
              refine h_aload_n (pc' := 22) rfl rfl rfl ?_
              refine h_str (pc' := 25) (x := (Int32.ofInt 7)) rfl rfl rfl rfl rfl ?_
              refine h_cge (tg := 55) (pc' := 28) rfl rfl rfl hz34 ci_7 (fun c35 => absurd c35 (by omega)) (fun c35 => ?_)
              refine h_aload_n (pc' := 29) rfl rfl rfl ?_
              refine h_getR (pc' := 32) rfl rfl rfl rfl rfl ?_
              refine h_aload_n (pc' := 33) rfl rfl rfl ?_
              refine h_getI (pc' := 36) (v := σ 64 4) rfl rfl rfl rfl rfl rfl (fun z36 hz36 => ?_)
              refine h_iload_n (pc' := 37) rfl rfl rfl ?_
              refine h_iadd (pc' := 38) rfl rfl hz36 hz34 rfl (by omega) (by omega) (fun z37 hz37 => ?_)
              clear hz36
              refine h_iald (pc' := 39) (v := σ 65 ((σ 64 4) + 5)) rfl rfl rfl hz37 (by omega) (by omega) rfl (fun z38 hz38 => ?_)
              have tz38 := ty_65 hI ((σ 64 4) + 5)
              clear hz37
              refine h_aload_n (pc' := 40) rfl rfl rfl ?_
              refine h_iload_n (pc' := 41) rfl rfl rfl ?_
              have qz34 : z34 = (Int32.ofInt 5) := h_lit hz34 ci_5
              subst qz34
              refine h_str (pc' := 44) (x := (Int32.ofInt 101)) rfl rfl rfl rfl rfl ?_
              clear hz34
              refine h_ceq (tg := 49) (pc' := 47) rfl rfl rfl hz38 ci_101 (fun c39 => ?_) (fun c39 => ?_)
              · clear hz38
                refine h_iinc (pc' := 52) (b := 6) (M := fun z40 => [(2, .int z40), (0, .ref 64), (1, .ref 2)]) rfl rfl rfl rfl ci_5 ci_1 rfl (by omega) (by omega) (fun _ => rfl) (fun z40 hz40 => ?_)
                refine h_goto (pc' := 20) rfl rfl ?_
                refine h_iload_n (pc' := 21) rfl rfl rfl ?_
                refine h_aload_n (pc' := 22) rfl rfl rfl ?_
                refine h_str (pc' := 25) (x := (Int32.ofInt 7)) rfl rfl rfl rfl rfl ?_
                refine h_cge (tg := 55) (pc' := 28) rfl rfl rfl hz40 ci_7 (fun c41 => absurd c41 (by omega)) (fun c41 => ?_)
                refine h_aload_n (pc' := 29) rfl rfl rfl ?_
                refine h_getR (pc' := 32) rfl rfl rfl rfl rfl ?_
                refine h_aload_n (pc' := 33) rfl rfl rfl ?_
                refine h_getI (pc' := 36) (v := σ 64 4) rfl rfl rfl rfl rfl rfl (fun z42 hz42 => ?_)
                refine h_iload_n (pc' := 37) rfl rfl rfl ?_
                refine h_iadd (pc' := 38) rfl rfl hz42 hz40 rfl (by omega) (by omega) (fun z43 hz43 => ?_)
                clear hz42
                refine h_iald (pc' := 39) (v := σ 65 ((σ 64 4) + 6)) rfl rfl rfl hz43 (by omega) (by omega) rfl (fun z44 hz44 => ?_)
                have tz44 := ty_65 hI ((σ 64 4) + 6)
                clear hz43
                refine h_aload_n (pc' := 40) rfl rfl rfl ?_
                refine h_iload_n (pc' := 41) rfl rfl rfl ?_
                have qz40 : z40 = (Int32.ofInt 6) := h_lit hz40 ci_6
                subst qz40
                refine h_str (pc' := 44) (x := (Int32.ofInt 100)) rfl rfl rfl rfl rfl ?_
                clear hz40
                refine h_ceq (tg := 49) (pc' := 47) rfl rfl rfl hz44 ci_100 (fun c45 => ?_) (fun c45 => ?_)
                · clear hz44
                  refine h_iinc (pc' := 52) (b := 7) (M := fun z46 => [(2, .int z46), (0, .ref 64), (1, .ref 2)]) rfl rfl rfl rfl ci_6 ci_1 rfl (by omega) (by omega) (fun _ => rfl) (fun z46 hz46 => ?_)
                  refine h_goto (pc' := 20) rfl rfl ?_
                  refine h_iload_n (pc' := 21) rfl rfl rfl ?_
                  refine h_aload_n (pc' := 22) rfl rfl rfl ?_
                  refine h_str (pc' := 25) (x := (Int32.ofInt 7)) rfl rfl rfl rfl rfl ?_
                  refine h_cge (tg := 55) (pc' := 28) rfl rfl rfl hz46 ci_7 (fun c47 => ?_) (fun c47 => absurd c47 (by omega))
                  refine h_iconst (pc' := 56) (x := (Int32.ofInt 1)) rfl rfl rfl ?_
                  exact h_zret rfl rfl ci_1 (by omega) (kk _ _ ci_1 (by omega) (Or.inl ⟨rfl, by omega, by omega, by omega, by omega, by omega, by omega, by omega, by omega⟩))
                · clear hz44
                  refine h_iconst (pc' := 48) (x := (Int32.ofInt 0)) rfl rfl rfl ?_
                  exact h_zret rfl rfl ci_0 (by omega) (kk _ _ ci_0 (by omega) (Or.inr ⟨rfl, fun h => by unfold g_nm1 at h; omega⟩))
              · clear hz38
                refine h_iconst (pc' := 48) (x := (Int32.ofInt 0)) rfl rfl rfl ?_
                exact h_zret rfl rfl ci_0 (by omega) (kk _ _ ci_0 (by omega) (Or.inr ⟨rfl, fun h => by unfold g_nm1 at h; omega⟩))
            · clear hz32
              refine h_iconst (pc' := 48) (x := (Int32.ofInt 0)) rfl rfl rfl ?_
              exact h_zret rfl rfl ci_0 (by omega) (kk _ _ ci_0 (by omega) (Or.inr ⟨rfl, fun h => by unfold g_nm1 at h; omega⟩))
          · clear hz26
            refine h_iconst (pc' := 48) (x := (Int32.ofInt 0)) rfl rfl rfl ?_
            exact h_zret rfl rfl ci_0 (by omega) (kk _ _ ci_0 (by omega) (Or.inr ⟨rfl, fun h => by unfold g_nm1 at h; omega⟩))
        · clear hz20
          refine h_iconst (pc' := 48) (x := (Int32.ofInt 0)) rfl rfl rfl ?_
          exact h_zret rfl rfl ci_0 (by omega) (kk _ _ ci_0 (by omega) (Or.inr ⟨rfl, fun h => by unfold g_nm1 at h; omega⟩))
      · clear hz14
        refine h_iconst (pc' := 48) (x := (Int32.ofInt 0)) rfl rfl rfl ?_
        exact h_zret rfl rfl ci_0 (by omega) (kk _ _ ci_0 (by omega) (Or.inr ⟨rfl, fun h => by unfold g_nm1 at h; omega⟩))
    · clear hz8
      refine h_iconst (pc' := 48) (x := (Int32.ofInt 0)) rfl rfl rfl ?_
      exact h_zret rfl rfl ci_0 (by omega) (kk _ _ ci_0 (by omega) (Or.inr ⟨rfl, fun h => by unfold g_nm1 at h; omega⟩))
  · clear hz3
    refine h_iconst (pc' := 17) (x := (Int32.ofInt 0)) rfl rfl rfl ?_
    exact h_zret rfl rfl ci_0 (by omega) (kk _ _ ci_0 (by omega) (Or.inr ⟨rfl, fun h => by unfold g_nm1 at h; omega⟩))
set_option maxHeartbeats 100000000 in
theorem n_isName2 {ns : Nat} (σ : h_S) (hI : h_I σ) {Q : Option Value → h_S → Prop} (kk : ∀ (r : Int32) (b : Int) (hb : r.toInt = b), (0 ≤ b ∧ b ≤ 1) → ((b = 1 ∧ g_nm2 (σ 65) (σ 64 4) (σ 64 2 - σ 64 4)) ∨ (b = 0 ∧ ¬ g_nm2 (σ 65) (σ 64 4) (σ 64 2 - σ 64 4))) → Q (some (.int r)) σ) : h_T g_P (g_Y ns) 77 0 [(0, .ref 64), (1, .ref 3)] [] σ Q := by
  have ge0 := tf_64_2 hI
  have ge1 := tf_64_4 hI
  refine h_aload_n (pc' := 1) rfl rfl rfl ?_
  refine h_getI (pc' := 4) (v := σ 64 2) rfl rfl rfl rfl rfl rfl (fun z1 hz1 => ?_)
  have tz1 := tf_64_2 hI
  refine h_aload_n (pc' := 5) rfl rfl rfl ?_
  refine h_getI (pc' := 8) (v := σ 64 4) rfl rfl rfl rfl rfl rfl (fun z2 hz2 => ?_)
  have tz2 := tf_64_4 hI
  refine h_isub (pc' := 9) rfl rfl hz1 hz2 rfl (by omega) (by omega) (fun z3 hz3 => ?_)
  clear hz1 hz2
  refine h_aload_n (pc' := 10) rfl rfl rfl ?_
  refine h_str (pc' := 13) (x := (Int32.ofInt 7)) rfl rfl rfl rfl rfl ?_
  refine h_ceq (tg := 18) (pc' := 16) rfl rfl rfl hz3 ci_7 (fun c4 => ?_) (fun c4 => ?_)
  · clear hz3
    refine h_iconst (pc' := 19) (x := (Int32.ofInt 0)) rfl rfl rfl ?_
    refine h_istore_n (pc' := 20) (M := [(2, .int (Int32.ofInt 0)), (0, .ref 64), (1, .ref 3)]) rfl rfl rfl rfl ?_
    refine h_iload_n (pc' := 21) rfl rfl rfl ?_
    refine h_aload_n (pc' := 22) rfl rfl rfl ?_
    refine h_str (pc' := 25) (x := (Int32.ofInt 7)) rfl rfl rfl rfl rfl ?_
    refine h_cge (tg := 55) (pc' := 28) rfl rfl rfl ci_0 ci_7 (fun c5 => absurd c5 (by omega)) (fun c5 => ?_)
    refine h_aload_n (pc' := 29) rfl rfl rfl ?_
    refine h_getR (pc' := 32) rfl rfl rfl rfl rfl ?_
    refine h_aload_n (pc' := 33) rfl rfl rfl ?_
    refine h_getI (pc' := 36) (v := σ 64 4) rfl rfl rfl rfl rfl rfl (fun z6 hz6 => ?_)
    refine h_iload_n (pc' := 37) rfl rfl rfl ?_
    refine h_iadd (pc' := 38) rfl rfl hz6 ci_0 rfl (by omega) (by omega) (fun z7 hz7 => ?_)
    clear hz6
    refine h_iald (pc' := 39) (v := σ 65 ((σ 64 4) + 0)) rfl rfl rfl hz7 (by omega) (by omega) rfl (fun z8 hz8 => ?_)
    have tz8 := ty_65 hI ((σ 64 4) + 0)
    clear hz7
    refine h_aload_n (pc' := 40) rfl rfl rfl ?_
    refine h_iload_n (pc' := 41) rfl rfl rfl ?_
    refine h_str (pc' := 44) (x := (Int32.ofInt 98)) rfl rfl rfl rfl rfl ?_
    refine h_ceq (tg := 49) (pc' := 47) rfl rfl rfl hz8 ci_98 (fun c9 => ?_) (fun c9 => ?_)
    · clear hz8
      refine h_iinc (pc' := 52) (b := 1) (M := fun z10 => [(2, .int z10), (0, .ref 64), (1, .ref 3)]) rfl rfl rfl rfl ci_0 ci_1 rfl (by omega) (by omega) (fun _ => rfl) (fun z10 hz10 => ?_)
      refine h_goto (pc' := 20) rfl rfl ?_
      refine h_iload_n (pc' := 21) rfl rfl rfl ?_
      refine h_aload_n (pc' := 22) rfl rfl rfl ?_
      refine h_str (pc' := 25) (x := (Int32.ofInt 7)) rfl rfl rfl rfl rfl ?_
      refine h_cge (tg := 55) (pc' := 28) rfl rfl rfl hz10 ci_7 (fun c11 => absurd c11 (by omega)) (fun c11 => ?_)
      refine h_aload_n (pc' := 29) rfl rfl rfl ?_
      refine h_getR (pc' := 32) rfl rfl rfl rfl rfl ?_
      refine h_aload_n (pc' := 33) rfl rfl rfl ?_
      refine h_getI (pc' := 36) (v := σ 64 4) rfl rfl rfl rfl rfl rfl (fun z12 hz12 => ?_)
      refine h_iload_n (pc' := 37) rfl rfl rfl ?_
      refine h_iadd (pc' := 38) rfl rfl hz12 hz10 rfl (by omega) (by omega) (fun z13 hz13 => ?_)
      clear hz12
      refine h_iald (pc' := 39) (v := σ 65 ((σ 64 4) + 1)) rfl rfl rfl hz13 (by omega) (by omega) rfl (fun z14 hz14 => ?_)
      have tz14 := ty_65 hI ((σ 64 4) + 1)
      clear hz13
      refine h_aload_n (pc' := 40) rfl rfl rfl ?_
      refine h_iload_n (pc' := 41) rfl rfl rfl ?_
      have qz10 : z10 = (Int32.ofInt 1) := h_lit hz10 ci_1
      subst qz10
      refine h_str (pc' := 44) (x := (Int32.ofInt 97)) rfl rfl rfl rfl rfl ?_
      clear hz10
      refine h_ceq (tg := 49) (pc' := 47) rfl rfl rfl hz14 ci_97 (fun c15 => ?_) (fun c15 => ?_)
      · clear hz14
        refine h_iinc (pc' := 52) (b := 2) (M := fun z16 => [(2, .int z16), (0, .ref 64), (1, .ref 3)]) rfl rfl rfl rfl ci_1 ci_1 rfl (by omega) (by omega) (fun _ => rfl) (fun z16 hz16 => ?_)
        refine h_goto (pc' := 20) rfl rfl ?_
        refine h_iload_n (pc' := 21) rfl rfl rfl ?_
        refine h_aload_n (pc' := 22) rfl rfl rfl ?_
        refine h_str (pc' := 25) (x := (Int32.ofInt 7)) rfl rfl rfl rfl rfl ?_
        refine h_cge (tg := 55) (pc' := 28) rfl rfl rfl hz16 ci_7 (fun c17 => absurd c17 (by omega)) (fun c17 => ?_)
        refine h_aload_n (pc' := 29) rfl rfl rfl ?_
        refine h_getR (pc' := 32) rfl rfl rfl rfl rfl ?_
        refine h_aload_n (pc' := 33) rfl rfl rfl ?_
        refine h_getI (pc' := 36) (v := σ 64 4) rfl rfl rfl rfl rfl rfl (fun z18 hz18 => ?_)
        refine h_iload_n (pc' := 37) rfl rfl rfl ?_
        refine h_iadd (pc' := 38) rfl rfl hz18 hz16 rfl (by omega) (by omega) (fun z19 hz19 => ?_)
        clear hz18
        refine h_iald (pc' := 39) (v := σ 65 ((σ 64 4) + 2)) rfl rfl rfl hz19 (by omega) (by omega) rfl (fun z20 hz20 => ?_)
        have tz20 := ty_65 hI ((σ 64 4) + 2)
        clear hz19
        refine h_aload_n (pc' := 40) rfl rfl rfl ?_
        refine h_iload_n (pc' := 41) rfl rfl rfl ?_
        have qz16 : z16 = (Int32.ofInt 2) := h_lit hz16 ci_2
        subst qz16
        refine h_str (pc' := 44) (x := (Int32.ofInt 115)) rfl rfl rfl rfl rfl ?_
        clear hz16
        refine h_ceq (tg := 49) (pc' := 47) rfl rfl rfl hz20 ci_115 (fun c21 => ?_) (fun c21 => ?_)
        · clear hz20
          refine h_iinc (pc' := 52) (b := 3) (M := fun z22 => [(2, .int z22), (0, .ref 64), (1, .ref 3)]) rfl rfl rfl rfl ci_2 ci_1 rfl (by omega) (by omega) (fun _ => rfl) (fun z22 hz22 => ?_)
          refine h_goto (pc' := 20) rfl rfl ?_
          refine h_iload_n (pc' := 21) rfl rfl rfl ?_
          refine h_aload_n (pc' := 22) rfl rfl rfl ?_
          refine h_str (pc' := 25) (x := (Int32.ofInt 7)) rfl rfl rfl rfl rfl ?_
          refine h_cge (tg := 55) (pc' := 28) rfl rfl rfl hz22 ci_7 (fun c23 => absurd c23 (by omega)) (fun c23 => ?_)
          refine h_aload_n (pc' := 29) rfl rfl rfl ?_
          refine h_getR (pc' := 32) rfl rfl rfl rfl rfl ?_
          refine h_aload_n (pc' := 33) rfl rfl rfl ?_
          refine h_getI (pc' := 36) (v := σ 64 4) rfl rfl rfl rfl rfl rfl (fun z24 hz24 => ?_)
          refine h_iload_n (pc' := 37) rfl rfl rfl ?_
          refine h_iadd (pc' := 38) rfl rfl hz24 hz22 rfl (by omega) (by omega) (fun z25 hz25 => ?_)
          clear hz24
          refine h_iald (pc' := 39) (v := σ 65 ((σ 64 4) + 3)) rfl rfl rfl hz25 (by omega) (by omega) rfl (fun z26 hz26 => ?_)
          have tz26 := ty_65 hI ((σ 64 4) + 3)
          clear hz25
          refine h_aload_n (pc' := 40) rfl rfl rfl ?_
          refine h_iload_n (pc' := 41) rfl rfl rfl ?_
          have qz22 : z22 = (Int32.ofInt 3) := h_lit hz22 ci_3
          subst qz22
          refine h_str (pc' := 44) (x := (Int32.ofInt 116)) rfl rfl rfl rfl rfl ?_
          clear hz22
          refine h_ceq (tg := 49) (pc' := 47) rfl rfl rfl hz26 ci_116 (fun c27 => ?_) (fun c27 => ?_)
          · clear hz26
            refine h_iinc (pc' := 52) (b := 4) (M := fun z28 => [(2, .int z28), (0, .ref 64), (1, .ref 3)]) rfl rfl rfl rfl ci_3 ci_1 rfl (by omega) (by omega) (fun _ => rfl) (fun z28 hz28 => ?_)
            refine h_goto (pc' := 20) rfl rfl ?_
            refine h_iload_n (pc' := 21) rfl rfl rfl ?_
            refine h_aload_n (pc' := 22) rfl rfl rfl ?_
            refine h_str (pc' := 25) (x := (Int32.ofInt 7)) rfl rfl rfl rfl rfl ?_
            refine h_cge (tg := 55) (pc' := 28) rfl rfl rfl hz28 ci_7 (fun c29 => absurd c29 (by omega)) (fun c29 => ?_)
            refine h_aload_n (pc' := 29) rfl rfl rfl ?_
            refine h_getR (pc' := 32) rfl rfl rfl rfl rfl ?_
            refine h_aload_n (pc' := 33) rfl rfl rfl ?_
            refine h_getI (pc' := 36) (v := σ 64 4) rfl rfl rfl rfl rfl rfl (fun z30 hz30 => ?_)
            refine h_iload_n (pc' := 37) rfl rfl rfl ?_
            refine h_iadd (pc' := 38) rfl rfl hz30 hz28 rfl (by omega) (by omega) (fun z31 hz31 => ?_)
            clear hz30
            refine h_iald (pc' := 39) (v := σ 65 ((σ 64 4) + 4)) rfl rfl rfl hz31 (by omega) (by omega) rfl (fun z32 hz32 => ?_)
            have tz32 := ty_65 hI ((σ 64 4) + 4)
            clear hz31
            refine h_aload_n (pc' := 40) rfl rfl rfl ?_
            refine h_iload_n (pc' := 41) rfl rfl rfl ?_
            have qz28 : z28 = (Int32.ofInt 4) := h_lit hz28 ci_4
            subst qz28
            refine h_str (pc' := 44) (x := (Int32.ofInt 97)) rfl rfl rfl rfl rfl ?_
            clear hz28
            refine h_ceq (tg := 49) (pc' := 47) rfl rfl rfl hz32 ci_97 (fun c33 => ?_) (fun c33 => ?_)
            · clear hz32
              refine h_iinc (pc' := 52) (b := 5) (M := fun z34 => [(2, .int z34), (0, .ref 64), (1, .ref 3)]) rfl rfl rfl rfl ci_4 ci_1 rfl (by omega) (by omega) (fun _ => rfl) (fun z34 hz34 => ?_)
              refine h_goto (pc' := 20) rfl rfl ?_
              refine h_iload_n (pc' := 21) rfl rfl rfl ?_
              refine h_aload_n (pc' := 22) rfl rfl rfl ?_
              refine h_str (pc' := 25) (x := (Int32.ofInt 7)) rfl rfl rfl rfl rfl ?_
              refine h_cge (tg := 55) (pc' := 28) rfl rfl rfl hz34 ci_7 (fun c35 => absurd c35 (by omega)) (fun c35 => ?_)
              refine h_aload_n (pc' := 29) rfl rfl rfl ?_
              refine h_getR (pc' := 32) rfl rfl rfl rfl rfl ?_
              refine h_aload_n (pc' := 33) rfl rfl rfl ?_
              refine h_getI (pc' := 36) (v := σ 64 4) rfl rfl rfl rfl rfl rfl (fun z36 hz36 => ?_)
              refine h_iload_n (pc' := 37) rfl rfl rfl ?_
              refine h_iadd (pc' := 38) rfl rfl hz36 hz34 rfl (by omega) (by omega) (fun z37 hz37 => ?_)
              clear hz36
              refine h_iald (pc' := 39) (v := σ 65 ((σ 64 4) + 5)) rfl rfl rfl hz37 (by omega) (by omega) rfl (fun z38 hz38 => ?_)
              have tz38 := ty_65 hI ((σ 64 4) + 5)
              clear hz37
              refine h_aload_n (pc' := 40) rfl rfl rfl ?_
              refine h_iload_n (pc' := 41) rfl rfl rfl ?_
              have qz34 : z34 = (Int32.ofInt 5) := h_lit hz34 ci_5
              subst qz34
              refine h_str (pc' := 44) (x := (Int32.ofInt 114)) rfl rfl rfl rfl rfl ?_
              clear hz34
              refine h_ceq (tg := 49) (pc' := 47) rfl rfl rfl hz38 ci_114 (fun c39 => ?_) (fun c39 => ?_)
              · clear hz38
                refine h_iinc (pc' := 52) (b := 6) (M := fun z40 => [(2, .int z40), (0, .ref 64), (1, .ref 3)]) rfl rfl rfl rfl ci_5 ci_1 rfl (by omega) (by omega) (fun _ => rfl) (fun z40 hz40 => ?_)
                refine h_goto (pc' := 20) rfl rfl ?_
                refine h_iload_n (pc' := 21) rfl rfl rfl ?_
                refine h_aload_n (pc' := 22) rfl rfl rfl ?_
                refine h_str (pc' := 25) (x := (Int32.ofInt 7)) rfl rfl rfl rfl rfl ?_
                refine h_cge (tg := 55) (pc' := 28) rfl rfl rfl hz40 ci_7 (fun c41 => absurd c41 (by omega)) (fun c41 => ?_)
                refine h_aload_n (pc' := 29) rfl rfl rfl ?_
                refine h_getR (pc' := 32) rfl rfl rfl rfl rfl ?_
                refine h_aload_n (pc' := 33) rfl rfl rfl ?_
                refine h_getI (pc' := 36) (v := σ 64 4) rfl rfl rfl rfl rfl rfl (fun z42 hz42 => ?_)
                refine h_iload_n (pc' := 37) rfl rfl rfl ?_
                refine h_iadd (pc' := 38) rfl rfl hz42 hz40 rfl (by omega) (by omega) (fun z43 hz43 => ?_)
                clear hz42
                refine h_iald (pc' := 39) (v := σ 65 ((σ 64 4) + 6)) rfl rfl rfl hz43 (by omega) (by omega) rfl (fun z44 hz44 => ?_)
                have tz44 := ty_65 hI ((σ 64 4) + 6)
                clear hz43
                refine h_aload_n (pc' := 40) rfl rfl rfl ?_
                refine h_iload_n (pc' := 41) rfl rfl rfl ?_
                have qz40 : z40 = (Int32.ofInt 6) := h_lit hz40 ci_6
                subst qz40
                refine h_str (pc' := 44) (x := (Int32.ofInt 100)) rfl rfl rfl rfl rfl ?_
                clear hz40
                refine h_ceq (tg := 49) (pc' := 47) rfl rfl rfl hz44 ci_100 (fun c45 => ?_) (fun c45 => ?_)
                · clear hz44
                  refine h_iinc (pc' := 52) (b := 7) (M := fun z46 => [(2, .int z46), (0, .ref 64), (1, .ref 3)]) rfl rfl rfl rfl ci_6 ci_1 rfl (by omega) (by omega) (fun _ => rfl) (fun z46 hz46 => ?_)
                  refine h_goto (pc' := 20) rfl rfl ?_
                  refine h_iload_n (pc' := 21) rfl rfl rfl ?_
                  refine h_aload_n (pc' := 22) rfl rfl rfl ?_
                  refine h_str (pc' := 25) (x := (Int32.ofInt 7)) rfl rfl rfl rfl rfl ?_
                  refine h_cge (tg := 55) (pc' := 28) rfl rfl rfl hz46 ci_7 (fun c47 => ?_) (fun c47 => absurd c47 (by omega))
                  refine h_iconst (pc' := 56) (x := (Int32.ofInt 1)) rfl rfl rfl ?_
                  exact h_zret rfl rfl ci_1 (by omega) (kk _ _ ci_1 (by omega) (Or.inl ⟨rfl, by omega, by omega, by omega, by omega, by omega, by omega, by omega, by omega⟩))
                · clear hz44
                  refine h_iconst (pc' := 48) (x := (Int32.ofInt 0)) rfl rfl rfl ?_
                  exact h_zret rfl rfl ci_0 (by omega) (kk _ _ ci_0 (by omega) (Or.inr ⟨rfl, fun h => by unfold g_nm2 at h; omega⟩))
              · clear hz38
                refine h_iconst (pc' := 48) (x := (Int32.ofInt 0)) rfl rfl rfl ?_
                exact h_zret rfl rfl ci_0 (by omega) (kk _ _ ci_0 (by omega) (Or.inr ⟨rfl, fun h => by unfold g_nm2 at h; omega⟩))
            · clear hz32
              refine h_iconst (pc' := 48) (x := (Int32.ofInt 0)) rfl rfl rfl ?_
              exact h_zret rfl rfl ci_0 (by omega) (kk _ _ ci_0 (by omega) (Or.inr ⟨rfl, fun h => by unfold g_nm2 at h; omega⟩))
          · clear hz26
            refine h_iconst (pc' := 48) (x := (Int32.ofInt 0)) rfl rfl rfl ?_
            exact h_zret rfl rfl ci_0 (by omega) (kk _ _ ci_0 (by omega) (Or.inr ⟨rfl, fun h => by unfold g_nm2 at h; omega⟩))
        · clear hz20
          refine h_iconst (pc' := 48) (x := (Int32.ofInt 0)) rfl rfl rfl ?_
          exact h_zret rfl rfl ci_0 (by omega) (kk _ _ ci_0 (by omega) (Or.inr ⟨rfl, fun h => by unfold g_nm2 at h; omega⟩))
      · clear hz14
        refine h_iconst (pc' := 48) (x := (Int32.ofInt 0)) rfl rfl rfl ?_
        exact h_zret rfl rfl ci_0 (by omega) (kk _ _ ci_0 (by omega) (Or.inr ⟨rfl, fun h => by unfold g_nm2 at h; omega⟩))
    · clear hz8
      refine h_iconst (pc' := 48) (x := (Int32.ofInt 0)) rfl rfl rfl ?_
      exact h_zret rfl rfl ci_0 (by omega) (kk _ _ ci_0 (by omega) (Or.inr ⟨rfl, fun h => by unfold g_nm2 at h; omega⟩))
  · clear hz3
    refine h_iconst (pc' := 17) (x := (Int32.ofInt 0)) rfl rfl rfl ?_
    exact h_zret rfl rfl ci_0 (by omega) (kk _ _ ci_0 (by omega) (Or.inr ⟨rfl, fun h => by unfold g_nm2 at h; omega⟩))
set_option maxHeartbeats 100000000 in
theorem n_isName3 {ns : Nat} (σ : h_S) (hI : h_I σ) {Q : Option Value → h_S → Prop} (kk : ∀ (r : Int32) (b : Int) (hb : r.toInt = b), (0 ≤ b ∧ b ≤ 1) → ((b = 1 ∧ g_nm3 (σ 65) (σ 64 4) (σ 64 2 - σ 64 4)) ∨ (b = 0 ∧ ¬ g_nm3 (σ 65) (σ 64 4) (σ 64 2 - σ 64 4))) → Q (some (.int r)) σ) : h_T g_P (g_Y ns) 77 0 [(0, .ref 64), (1, .ref 4)] [] σ Q := by
  have ge0 := tf_64_2 hI
  have ge1 := tf_64_4 hI
  refine h_aload_n (pc' := 1) rfl rfl rfl ?_
  refine h_getI (pc' := 4) (v := σ 64 2) rfl rfl rfl rfl rfl rfl (fun z1 hz1 => ?_)
  have tz1 := tf_64_2 hI
  refine h_aload_n (pc' := 5) rfl rfl rfl ?_
  refine h_getI (pc' := 8) (v := σ 64 4) rfl rfl rfl rfl rfl rfl (fun z2 hz2 => ?_)
  have tz2 := tf_64_4 hI
  refine h_isub (pc' := 9) rfl rfl hz1 hz2 rfl (by omega) (by omega) (fun z3 hz3 => ?_)
  clear hz1 hz2
  refine h_aload_n (pc' := 10) rfl rfl rfl ?_
  refine h_str (pc' := 13) (x := (Int32.ofInt 8)) rfl rfl rfl rfl rfl ?_
  refine h_ceq (tg := 18) (pc' := 16) rfl rfl rfl hz3 ci_8 (fun c4 => ?_) (fun c4 => ?_)
  · clear hz3
    refine h_iconst (pc' := 19) (x := (Int32.ofInt 0)) rfl rfl rfl ?_
    refine h_istore_n (pc' := 20) (M := [(2, .int (Int32.ofInt 0)), (0, .ref 64), (1, .ref 4)]) rfl rfl rfl rfl ?_
    refine h_iload_n (pc' := 21) rfl rfl rfl ?_
    refine h_aload_n (pc' := 22) rfl rfl rfl ?_
    refine h_str (pc' := 25) (x := (Int32.ofInt 8)) rfl rfl rfl rfl rfl ?_
    refine h_cge (tg := 55) (pc' := 28) rfl rfl rfl ci_0 ci_8 (fun c5 => absurd c5 (by omega)) (fun c5 => ?_)
    refine h_aload_n (pc' := 29) rfl rfl rfl ?_
    refine h_getR (pc' := 32) rfl rfl rfl rfl rfl ?_
    refine h_aload_n (pc' := 33) rfl rfl rfl ?_
    refine h_getI (pc' := 36) (v := σ 64 4) rfl rfl rfl rfl rfl rfl (fun z6 hz6 => ?_)
    refine h_iload_n (pc' := 37) rfl rfl rfl ?_
    refine h_iadd (pc' := 38) rfl rfl hz6 ci_0 rfl (by omega) (by omega) (fun z7 hz7 => ?_)
    clear hz6
    refine h_iald (pc' := 39) (v := σ 65 ((σ 64 4) + 0)) rfl rfl rfl hz7 (by omega) (by omega) rfl (fun z8 hz8 => ?_)
    have tz8 := ty_65 hI ((σ 64 4) + 0)
    clear hz7
    refine h_aload_n (pc' := 40) rfl rfl rfl ?_
    refine h_iload_n (pc' := 41) rfl rfl rfl ?_
    refine h_str (pc' := 44) (x := (Int32.ofInt 101)) rfl rfl rfl rfl rfl ?_
    refine h_ceq (tg := 49) (pc' := 47) rfl rfl rfl hz8 ci_101 (fun c9 => ?_) (fun c9 => ?_)
    · clear hz8
      refine h_iinc (pc' := 52) (b := 1) (M := fun z10 => [(2, .int z10), (0, .ref 64), (1, .ref 4)]) rfl rfl rfl rfl ci_0 ci_1 rfl (by omega) (by omega) (fun _ => rfl) (fun z10 hz10 => ?_)
      refine h_goto (pc' := 20) rfl rfl ?_
      refine h_iload_n (pc' := 21) rfl rfl rfl ?_
      refine h_aload_n (pc' := 22) rfl rfl rfl ?_
      refine h_str (pc' := 25) (x := (Int32.ofInt 8)) rfl rfl rfl rfl rfl ?_
      refine h_cge (tg := 55) (pc' := 28) rfl rfl rfl hz10 ci_8 (fun c11 => absurd c11 (by omega)) (fun c11 => ?_)
      refine h_aload_n (pc' := 29) rfl rfl rfl ?_
      refine h_getR (pc' := 32) rfl rfl rfl rfl rfl ?_
      refine h_aload_n (pc' := 33) rfl rfl rfl ?_
      refine h_getI (pc' := 36) (v := σ 64 4) rfl rfl rfl rfl rfl rfl (fun z12 hz12 => ?_)
      refine h_iload_n (pc' := 37) rfl rfl rfl ?_
      refine h_iadd (pc' := 38) rfl rfl hz12 hz10 rfl (by omega) (by omega) (fun z13 hz13 => ?_)
      clear hz12
      refine h_iald (pc' := 39) (v := σ 65 ((σ 64 4) + 1)) rfl rfl rfl hz13 (by omega) (by omega) rfl (fun z14 hz14 => ?_)
      have tz14 := ty_65 hI ((σ 64 4) + 1)
      clear hz13
      refine h_aload_n (pc' := 40) rfl rfl rfl ?_
      refine h_iload_n (pc' := 41) rfl rfl rfl ?_
      have qz10 : z10 = (Int32.ofInt 1) := h_lit hz10 ci_1
      subst qz10
      refine h_str (pc' := 44) (x := (Int32.ofInt 115)) rfl rfl rfl rfl rfl ?_
      clear hz10
      refine h_ceq (tg := 49) (pc' := 47) rfl rfl rfl hz14 ci_115 (fun c15 => ?_) (fun c15 => ?_)
      · clear hz14
        refine h_iinc (pc' := 52) (b := 2) (M := fun z16 => [(2, .int z16), (0, .ref 64), (1, .ref 4)]) rfl rfl rfl rfl ci_1 ci_1 rfl (by omega) (by omega) (fun _ => rfl) (fun z16 hz16 => ?_)
        refine h_goto (pc' := 20) rfl rfl ?_
        refine h_iload_n (pc' := 21) rfl rfl rfl ?_
        refine h_aload_n (pc' := 22) rfl rfl rfl ?_
        refine h_str (pc' := 25) (x := (Int32.ofInt 8)) rfl rfl rfl rfl rfl ?_
        refine h_cge (tg := 55) (pc' := 28) rfl rfl rfl hz16 ci_8 (fun c17 => absurd c17 (by omega)) (fun c17 => ?_)
        refine h_aload_n (pc' := 29) rfl rfl rfl ?_
        refine h_getR (pc' := 32) rfl rfl rfl rfl rfl ?_
        refine h_aload_n (pc' := 33) rfl rfl rfl ?_
        refine h_getI (pc' := 36) (v := σ 64 4) rfl rfl rfl rfl rfl rfl (fun z18 hz18 => ?_)
        refine h_iload_n (pc' := 37) rfl rfl rfl ?_
        refine h_iadd (pc' := 38) rfl rfl hz18 hz16 rfl (by omega) (by omega) (fun z19 hz19 => ?_)
        clear hz18
        refine h_iald (pc' := 39) (v := σ 65 ((σ 64 4) + 2)) rfl rfl rfl hz19 (by omega) (by omega) rfl (fun z20 hz20 => ?_)
        have tz20 := ty_65 hI ((σ 64 4) + 2)
        clear hz19
        refine h_aload_n (pc' := 40) rfl rfl rfl ?_
        refine h_iload_n (pc' := 41) rfl rfl rfl ?_
        have qz16 : z16 = (Int32.ofInt 2) := h_lit hz16 ci_2
        subst qz16
        refine h_str (pc' := 44) (x := (Int32.ofInt 116)) rfl rfl rfl rfl rfl ?_
        clear hz16
        refine h_ceq (tg := 49) (pc' := 47) rfl rfl rfl hz20 ci_116 (fun c21 => ?_) (fun c21 => ?_)
        · clear hz20
          refine h_iinc (pc' := 52) (b := 3) (M := fun z22 => [(2, .int z22), (0, .ref 64), (1, .ref 4)]) rfl rfl rfl rfl ci_2 ci_1 rfl (by omega) (by omega) (fun _ => rfl) (fun z22 hz22 => ?_)
          refine h_goto (pc' := 20) rfl rfl ?_
          refine h_iload_n (pc' := 21) rfl rfl rfl ?_
          refine h_aload_n (pc' := 22) rfl rfl rfl ?_
          refine h_str (pc' := 25) (x := (Int32.ofInt 8)) rfl rfl rfl rfl rfl ?_
          refine h_cge (tg := 55) (pc' := 28) rfl rfl rfl hz22 ci_8 (fun c23 => absurd c23 (by omega)) (fun c23 => ?_)
          refine h_aload_n (pc' := 29) rfl rfl rfl ?_
          refine h_getR (pc' := 32) rfl rfl rfl rfl rfl ?_
          refine h_aload_n (pc' := 33) rfl rfl rfl ?_
          refine h_getI (pc' := 36) (v := σ 64 4) rfl rfl rfl rfl rfl rfl (fun z24 hz24 => ?_)
          refine h_iload_n (pc' := 37) rfl rfl rfl ?_
          refine h_iadd (pc' := 38) rfl rfl hz24 hz22 rfl (by omega) (by omega) (fun z25 hz25 => ?_)
          clear hz24
          refine h_iald (pc' := 39) (v := σ 65 ((σ 64 4) + 3)) rfl rfl rfl hz25 (by omega) (by omega) rfl (fun z26 hz26 => ?_)
          have tz26 := ty_65 hI ((σ 64 4) + 3)
          clear hz25
          refine h_aload_n (pc' := 40) rfl rfl rfl ?_
          refine h_iload_n (pc' := 41) rfl rfl rfl ?_
          have qz22 : z22 = (Int32.ofInt 3) := h_lit hz22 ci_3
          subst qz22
          refine h_str (pc' := 44) (x := (Int32.ofInt 114)) rfl rfl rfl rfl rfl ?_
          clear hz22
          refine h_ceq (tg := 49) (pc' := 47) rfl rfl rfl hz26 ci_114 (fun c27 => ?_) (fun c27 => ?_)
          · clear hz26
            refine h_iinc (pc' := 52) (b := 4) (M := fun z28 => [(2, .int z28), (0, .ref 64), (1, .ref 4)]) rfl rfl rfl rfl ci_3 ci_1 rfl (by omega) (by omega) (fun _ => rfl) (fun z28 hz28 => ?_)
            refine h_goto (pc' := 20) rfl rfl ?_
            refine h_iload_n (pc' := 21) rfl rfl rfl ?_
            refine h_aload_n (pc' := 22) rfl rfl rfl ?_
            refine h_str (pc' := 25) (x := (Int32.ofInt 8)) rfl rfl rfl rfl rfl ?_
            refine h_cge (tg := 55) (pc' := 28) rfl rfl rfl hz28 ci_8 (fun c29 => absurd c29 (by omega)) (fun c29 => ?_)
            refine h_aload_n (pc' := 29) rfl rfl rfl ?_
            refine h_getR (pc' := 32) rfl rfl rfl rfl rfl ?_
            refine h_aload_n (pc' := 33) rfl rfl rfl ?_
            refine h_getI (pc' := 36) (v := σ 64 4) rfl rfl rfl rfl rfl rfl (fun z30 hz30 => ?_)
            refine h_iload_n (pc' := 37) rfl rfl rfl ?_
            refine h_iadd (pc' := 38) rfl rfl hz30 hz28 rfl (by omega) (by omega) (fun z31 hz31 => ?_)
            clear hz30
            refine h_iald (pc' := 39) (v := σ 65 ((σ 64 4) + 4)) rfl rfl rfl hz31 (by omega) (by omega) rfl (fun z32 hz32 => ?_)
            have tz32 := ty_65 hI ((σ 64 4) + 4)
            clear hz31
            refine h_aload_n (pc' := 40) rfl rfl rfl ?_
            refine h_iload_n (pc' := 41) rfl rfl rfl ?_
            have qz28 : z28 = (Int32.ofInt 4) := h_lit hz28 ci_4
            subst qz28
            refine h_str (pc' := 44) (x := (Int32.ofInt 97)) rfl rfl rfl rfl rfl ?_
            clear hz28
            refine h_ceq (tg := 49) (pc' := 47) rfl rfl rfl hz32 ci_97 (fun c33 => ?_) (fun c33 => ?_)
            · clear hz32
              refine h_iinc (pc' := 52) (b := 5) (M := fun z34 => [(2, .int z34), (0, .ref 64), (1, .ref 4)]) rfl rfl rfl rfl ci_4 ci_1 rfl (by omega) (by omega) (fun _ => rfl) (fun z34 hz34 => ?_)
              refine h_goto (pc' := 20) rfl rfl ?_
              refine h_iload_n (pc' := 21) rfl rfl rfl ?_
              refine h_aload_n (pc' := 22) rfl rfl rfl ?_
              refine h_str (pc' := 25) (x := (Int32.ofInt 8)) rfl rfl rfl rfl rfl ?_
              refine h_cge (tg := 55) (pc' := 28) rfl rfl rfl hz34 ci_8 (fun c35 => absurd c35 (by omega)) (fun c35 => ?_)
              refine h_aload_n (pc' := 29) rfl rfl rfl ?_
              refine h_getR (pc' := 32) rfl rfl rfl rfl rfl ?_
              refine h_aload_n (pc' := 33) rfl rfl rfl ?_
              refine h_getI (pc' := 36) (v := σ 64 4) rfl rfl rfl rfl rfl rfl (fun z36 hz36 => ?_)
              refine h_iload_n (pc' := 37) rfl rfl rfl ?_
              refine h_iadd (pc' := 38) rfl rfl hz36 hz34 rfl (by omega) (by omega) (fun z37 hz37 => ?_)
              clear hz36
              refine h_iald (pc' := 39) (v := σ 65 ((σ 64 4) + 5)) rfl rfl rfl hz37 (by omega) (by omega) rfl (fun z38 hz38 => ?_)
              have tz38 := ty_65 hI ((σ 64 4) + 5)
              clear hz37
              refine h_aload_n (pc' := 40) rfl rfl rfl ?_
              refine h_iload_n (pc' := 41) rfl rfl rfl ?_
              have qz34 : z34 = (Int32.ofInt 5) := h_lit hz34 ci_5
              subst qz34
              refine h_str (pc' := 44) (x := (Int32.ofInt 110)) rfl rfl rfl rfl rfl ?_
              clear hz34
              refine h_ceq (tg := 49) (pc' := 47) rfl rfl rfl hz38 ci_110 (fun c39 => ?_) (fun c39 => ?_)
              · clear hz38
                refine h_iinc (pc' := 52) (b := 6) (M := fun z40 => [(2, .int z40), (0, .ref 64), (1, .ref 4)]) rfl rfl rfl rfl ci_5 ci_1 rfl (by omega) (by omega) (fun _ => rfl) (fun z40 hz40 => ?_)
                refine h_goto (pc' := 20) rfl rfl ?_
                refine h_iload_n (pc' := 21) rfl rfl rfl ?_
                refine h_aload_n (pc' := 22) rfl rfl rfl ?_
                refine h_str (pc' := 25) (x := (Int32.ofInt 8)) rfl rfl rfl rfl rfl ?_
                refine h_cge (tg := 55) (pc' := 28) rfl rfl rfl hz40 ci_8 (fun c41 => absurd c41 (by omega)) (fun c41 => ?_)
                refine h_aload_n (pc' := 29) rfl rfl rfl ?_
                refine h_getR (pc' := 32) rfl rfl rfl rfl rfl ?_
                refine h_aload_n (pc' := 33) rfl rfl rfl ?_
                refine h_getI (pc' := 36) (v := σ 64 4) rfl rfl rfl rfl rfl rfl (fun z42 hz42 => ?_)
                refine h_iload_n (pc' := 37) rfl rfl rfl ?_
                refine h_iadd (pc' := 38) rfl rfl hz42 hz40 rfl (by omega) (by omega) (fun z43 hz43 => ?_)
                clear hz42
                refine h_iald (pc' := 39) (v := σ 65 ((σ 64 4) + 6)) rfl rfl rfl hz43 (by omega) (by omega) rfl (fun z44 hz44 => ?_)
                have tz44 := ty_65 hI ((σ 64 4) + 6)
                clear hz43
                refine h_aload_n (pc' := 40) rfl rfl rfl ?_
                refine h_iload_n (pc' := 41) rfl rfl rfl ?_
                have qz40 : z40 = (Int32.ofInt 6) := h_lit hz40 ci_6
                subst qz40
                refine h_str (pc' := 44) (x := (Int32.ofInt 103)) rfl rfl rfl rfl rfl ?_
                clear hz40
                refine h_ceq (tg := 49) (pc' := 47) rfl rfl rfl hz44 ci_103 (fun c45 => ?_) (fun c45 => ?_)
                · clear hz44
                  refine h_iinc (pc' := 52) (b := 7) (M := fun z46 => [(2, .int z46), (0, .ref 64), (1, .ref 4)]) rfl rfl rfl rfl ci_6 ci_1 rfl (by omega) (by omega) (fun _ => rfl) (fun z46 hz46 => ?_)
                  refine h_goto (pc' := 20) rfl rfl ?_
                  refine h_iload_n (pc' := 21) rfl rfl rfl ?_
                  refine h_aload_n (pc' := 22) rfl rfl rfl ?_
                  refine h_str (pc' := 25) (x := (Int32.ofInt 8)) rfl rfl rfl rfl rfl ?_
                  refine h_cge (tg := 55) (pc' := 28) rfl rfl rfl hz46 ci_8 (fun c47 => absurd c47 (by omega)) (fun c47 => ?_)
                  refine h_aload_n (pc' := 29) rfl rfl rfl ?_
                  refine h_getR (pc' := 32) rfl rfl rfl rfl rfl ?_
                  refine h_aload_n (pc' := 33) rfl rfl rfl ?_
                  refine h_getI (pc' := 36) (v := σ 64 4) rfl rfl rfl rfl rfl rfl (fun z48 hz48 => ?_)
                  refine h_iload_n (pc' := 37) rfl rfl rfl ?_
                  refine h_iadd (pc' := 38) rfl rfl hz48 hz46 rfl (by omega) (by omega) (fun z49 hz49 => ?_)
                  clear hz48
                  refine h_iald (pc' := 39) (v := σ 65 ((σ 64 4) + 7)) rfl rfl rfl hz49 (by omega) (by omega) rfl (fun z50 hz50 => ?_)
                  have tz50 := ty_65 hI ((σ 64 4) + 7)
                  clear hz49
                  refine h_aload_n (pc' := 40) rfl rfl rfl ?_
                  refine h_iload_n (pc' := 41) rfl rfl rfl ?_
                  have qz46 : z46 = (Int32.ofInt 7) := h_lit hz46 ci_7
                  subst qz46
                  refine h_str (pc' := 44) (x := (Int32.ofInt 101)) rfl rfl rfl rfl rfl ?_
                  clear hz46
                  refine h_ceq (tg := 49) (pc' := 47) rfl rfl rfl hz50 ci_101 (fun c51 => ?_) (fun c51 => ?_)
                  · clear hz50
                    refine h_iinc (pc' := 52) (b := 8) (M := fun z52 => [(2, .int z52), (0, .ref 64), (1, .ref 4)]) rfl rfl rfl rfl ci_7 ci_1 rfl (by omega) (by omega) (fun _ => rfl) (fun z52 hz52 => ?_)
                    refine h_goto (pc' := 20) rfl rfl ?_
                    refine h_iload_n (pc' := 21) rfl rfl rfl ?_
                    refine h_aload_n (pc' := 22) rfl rfl rfl ?_
                    refine h_str (pc' := 25) (x := (Int32.ofInt 8)) rfl rfl rfl rfl rfl ?_
                    refine h_cge (tg := 55) (pc' := 28) rfl rfl rfl hz52 ci_8 (fun c53 => ?_) (fun c53 => absurd c53 (by omega))
                    refine h_iconst (pc' := 56) (x := (Int32.ofInt 1)) rfl rfl rfl ?_
                    exact h_zret rfl rfl ci_1 (by omega) (kk _ _ ci_1 (by omega) (Or.inl ⟨rfl, by omega, by omega, by omega, by omega, by omega, by omega, by omega, by omega, by omega⟩))
                  · clear hz50
                    refine h_iconst (pc' := 48) (x := (Int32.ofInt 0)) rfl rfl rfl ?_
                    exact h_zret rfl rfl ci_0 (by omega) (kk _ _ ci_0 (by omega) (Or.inr ⟨rfl, fun h => by unfold g_nm3 at h; omega⟩))
                · clear hz44
                  refine h_iconst (pc' := 48) (x := (Int32.ofInt 0)) rfl rfl rfl ?_
                  exact h_zret rfl rfl ci_0 (by omega) (kk _ _ ci_0 (by omega) (Or.inr ⟨rfl, fun h => by unfold g_nm3 at h; omega⟩))
              · clear hz38
                refine h_iconst (pc' := 48) (x := (Int32.ofInt 0)) rfl rfl rfl ?_
                exact h_zret rfl rfl ci_0 (by omega) (kk _ _ ci_0 (by omega) (Or.inr ⟨rfl, fun h => by unfold g_nm3 at h; omega⟩))
            · clear hz32
              refine h_iconst (pc' := 48) (x := (Int32.ofInt 0)) rfl rfl rfl ?_
              exact h_zret rfl rfl ci_0 (by omega) (kk _ _ ci_0 (by omega) (Or.inr ⟨rfl, fun h => by unfold g_nm3 at h; omega⟩))
          · clear hz26
            refine h_iconst (pc' := 48) (x := (Int32.ofInt 0)) rfl rfl rfl ?_
            exact h_zret rfl rfl ci_0 (by omega) (kk _ _ ci_0 (by omega) (Or.inr ⟨rfl, fun h => by unfold g_nm3 at h; omega⟩))
        · clear hz20
          refine h_iconst (pc' := 48) (x := (Int32.ofInt 0)) rfl rfl rfl ?_
          exact h_zret rfl rfl ci_0 (by omega) (kk _ _ ci_0 (by omega) (Or.inr ⟨rfl, fun h => by unfold g_nm3 at h; omega⟩))
      · clear hz14
        refine h_iconst (pc' := 48) (x := (Int32.ofInt 0)) rfl rfl rfl ?_
        exact h_zret rfl rfl ci_0 (by omega) (kk _ _ ci_0 (by omega) (Or.inr ⟨rfl, fun h => by unfold g_nm3 at h; omega⟩))
    · clear hz8
      refine h_iconst (pc' := 48) (x := (Int32.ofInt 0)) rfl rfl rfl ?_
      exact h_zret rfl rfl ci_0 (by omega) (kk _ _ ci_0 (by omega) (Or.inr ⟨rfl, fun h => by unfold g_nm3 at h; omega⟩))
  · clear hz3
    refine h_iconst (pc' := 17) (x := (Int32.ofInt 0)) rfl rfl rfl ?_
    exact h_zret rfl rfl ci_0 (by omega) (kk _ _ ci_0 (by omega) (Or.inr ⟨rfl, fun h => by unfold g_nm3 at h; omega⟩))
set_option maxHeartbeats 100000000 in
theorem n_isName4 {ns : Nat} (σ : h_S) (hI : h_I σ) {Q : Option Value → h_S → Prop} (kk : ∀ (r : Int32) (b : Int) (hb : r.toInt = b), (0 ≤ b ∧ b ≤ 1) → ((b = 1 ∧ g_nm4 (σ 65) (σ 64 4) (σ 64 2 - σ 64 4)) ∨ (b = 0 ∧ ¬ g_nm4 (σ 65) (σ 64 4) (σ 64 2 - σ 64 4))) → Q (some (.int r)) σ) : h_T g_P (g_Y ns) 77 0 [(0, .ref 64), (1, .ref 5)] [] σ Q := by
  have ge0 := tf_64_2 hI
  have ge1 := tf_64_4 hI
  refine h_aload_n (pc' := 1) rfl rfl rfl ?_
  refine h_getI (pc' := 4) (v := σ 64 2) rfl rfl rfl rfl rfl rfl (fun z1 hz1 => ?_)
  have tz1 := tf_64_2 hI
  refine h_aload_n (pc' := 5) rfl rfl rfl ?_
  refine h_getI (pc' := 8) (v := σ 64 4) rfl rfl rfl rfl rfl rfl (fun z2 hz2 => ?_)
  have tz2 := tf_64_4 hI
  refine h_isub (pc' := 9) rfl rfl hz1 hz2 rfl (by omega) (by omega) (fun z3 hz3 => ?_)
  clear hz1 hz2
  refine h_aload_n (pc' := 10) rfl rfl rfl ?_
  refine h_str (pc' := 13) (x := (Int32.ofInt 5)) rfl rfl rfl rfl rfl ?_
  refine h_ceq (tg := 18) (pc' := 16) rfl rfl rfl hz3 ci_5 (fun c4 => ?_) (fun c4 => ?_)
  · clear hz3
    refine h_iconst (pc' := 19) (x := (Int32.ofInt 0)) rfl rfl rfl ?_
    refine h_istore_n (pc' := 20) (M := [(2, .int (Int32.ofInt 0)), (0, .ref 64), (1, .ref 5)]) rfl rfl rfl rfl ?_
    refine h_iload_n (pc' := 21) rfl rfl rfl ?_
    refine h_aload_n (pc' := 22) rfl rfl rfl ?_
    refine h_str (pc' := 25) (x := (Int32.ofInt 5)) rfl rfl rfl rfl rfl ?_
    refine h_cge (tg := 55) (pc' := 28) rfl rfl rfl ci_0 ci_5 (fun c5 => absurd c5 (by omega)) (fun c5 => ?_)
    refine h_aload_n (pc' := 29) rfl rfl rfl ?_
    refine h_getR (pc' := 32) rfl rfl rfl rfl rfl ?_
    refine h_aload_n (pc' := 33) rfl rfl rfl ?_
    refine h_getI (pc' := 36) (v := σ 64 4) rfl rfl rfl rfl rfl rfl (fun z6 hz6 => ?_)
    refine h_iload_n (pc' := 37) rfl rfl rfl ?_
    refine h_iadd (pc' := 38) rfl rfl hz6 ci_0 rfl (by omega) (by omega) (fun z7 hz7 => ?_)
    clear hz6
    refine h_iald (pc' := 39) (v := σ 65 ((σ 64 4) + 0)) rfl rfl rfl hz7 (by omega) (by omega) rfl (fun z8 hz8 => ?_)
    have tz8 := ty_65 hI ((σ 64 4) + 0)
    clear hz7
    refine h_aload_n (pc' := 40) rfl rfl rfl ?_
    refine h_iload_n (pc' := 41) rfl rfl rfl ?_
    refine h_str (pc' := 44) (x := (Int32.ofInt 109)) rfl rfl rfl rfl rfl ?_
    refine h_ceq (tg := 49) (pc' := 47) rfl rfl rfl hz8 ci_109 (fun c9 => ?_) (fun c9 => ?_)
    · clear hz8
      refine h_iinc (pc' := 52) (b := 1) (M := fun z10 => [(2, .int z10), (0, .ref 64), (1, .ref 5)]) rfl rfl rfl rfl ci_0 ci_1 rfl (by omega) (by omega) (fun _ => rfl) (fun z10 hz10 => ?_)
      refine h_goto (pc' := 20) rfl rfl ?_
      refine h_iload_n (pc' := 21) rfl rfl rfl ?_
      refine h_aload_n (pc' := 22) rfl rfl rfl ?_
      refine h_str (pc' := 25) (x := (Int32.ofInt 5)) rfl rfl rfl rfl rfl ?_
      refine h_cge (tg := 55) (pc' := 28) rfl rfl rfl hz10 ci_5 (fun c11 => absurd c11 (by omega)) (fun c11 => ?_)
      refine h_aload_n (pc' := 29) rfl rfl rfl ?_
      refine h_getR (pc' := 32) rfl rfl rfl rfl rfl ?_
      refine h_aload_n (pc' := 33) rfl rfl rfl ?_
      refine h_getI (pc' := 36) (v := σ 64 4) rfl rfl rfl rfl rfl rfl (fun z12 hz12 => ?_)
      refine h_iload_n (pc' := 37) rfl rfl rfl ?_
      refine h_iadd (pc' := 38) rfl rfl hz12 hz10 rfl (by omega) (by omega) (fun z13 hz13 => ?_)
      clear hz12
      refine h_iald (pc' := 39) (v := σ 65 ((σ 64 4) + 1)) rfl rfl rfl hz13 (by omega) (by omega) rfl (fun z14 hz14 => ?_)
      have tz14 := ty_65 hI ((σ 64 4) + 1)
      clear hz13
      refine h_aload_n (pc' := 40) rfl rfl rfl ?_
      refine h_iload_n (pc' := 41) rfl rfl rfl ?_
      have qz10 : z10 = (Int32.ofInt 1) := h_lit hz10 ci_1
      subst qz10
      refine h_str (pc' := 44) (x := (Int32.ofInt 97)) rfl rfl rfl rfl rfl ?_
      clear hz10
      refine h_ceq (tg := 49) (pc' := 47) rfl rfl rfl hz14 ci_97 (fun c15 => ?_) (fun c15 => ?_)
      · clear hz14
        refine h_iinc (pc' := 52) (b := 2) (M := fun z16 => [(2, .int z16), (0, .ref 64), (1, .ref 5)]) rfl rfl rfl rfl ci_1 ci_1 rfl (by omega) (by omega) (fun _ => rfl) (fun z16 hz16 => ?_)
        refine h_goto (pc' := 20) rfl rfl ?_
        refine h_iload_n (pc' := 21) rfl rfl rfl ?_
        refine h_aload_n (pc' := 22) rfl rfl rfl ?_
        refine h_str (pc' := 25) (x := (Int32.ofInt 5)) rfl rfl rfl rfl rfl ?_
        refine h_cge (tg := 55) (pc' := 28) rfl rfl rfl hz16 ci_5 (fun c17 => absurd c17 (by omega)) (fun c17 => ?_)
        refine h_aload_n (pc' := 29) rfl rfl rfl ?_
        refine h_getR (pc' := 32) rfl rfl rfl rfl rfl ?_
        refine h_aload_n (pc' := 33) rfl rfl rfl ?_
        refine h_getI (pc' := 36) (v := σ 64 4) rfl rfl rfl rfl rfl rfl (fun z18 hz18 => ?_)
        refine h_iload_n (pc' := 37) rfl rfl rfl ?_
        refine h_iadd (pc' := 38) rfl rfl hz18 hz16 rfl (by omega) (by omega) (fun z19 hz19 => ?_)
        clear hz18
        refine h_iald (pc' := 39) (v := σ 65 ((σ 64 4) + 2)) rfl rfl rfl hz19 (by omega) (by omega) rfl (fun z20 hz20 => ?_)
        have tz20 := ty_65 hI ((σ 64 4) + 2)
        clear hz19
        refine h_aload_n (pc' := 40) rfl rfl rfl ?_
        refine h_iload_n (pc' := 41) rfl rfl rfl ?_
        have qz16 : z16 = (Int32.ofInt 2) := h_lit hz16 ci_2
        subst qz16
        refine h_str (pc' := 44) (x := (Int32.ofInt 114)) rfl rfl rfl rfl rfl ?_
        clear hz16
        refine h_ceq (tg := 49) (pc' := 47) rfl rfl rfl hz20 ci_114 (fun c21 => ?_) (fun c21 => ?_)
        · clear hz20
          refine h_iinc (pc' := 52) (b := 3) (M := fun z22 => [(2, .int z22), (0, .ref 64), (1, .ref 5)]) rfl rfl rfl rfl ci_2 ci_1 rfl (by omega) (by omega) (fun _ => rfl) (fun z22 hz22 => ?_)
          refine h_goto (pc' := 20) rfl rfl ?_
          refine h_iload_n (pc' := 21) rfl rfl rfl ?_
          refine h_aload_n (pc' := 22) rfl rfl rfl ?_
          refine h_str (pc' := 25) (x := (Int32.ofInt 5)) rfl rfl rfl rfl rfl ?_
          refine h_cge (tg := 55) (pc' := 28) rfl rfl rfl hz22 ci_5 (fun c23 => absurd c23 (by omega)) (fun c23 => ?_)
          refine h_aload_n (pc' := 29) rfl rfl rfl ?_
          refine h_getR (pc' := 32) rfl rfl rfl rfl rfl ?_
          refine h_aload_n (pc' := 33) rfl rfl rfl ?_
          refine h_getI (pc' := 36) (v := σ 64 4) rfl rfl rfl rfl rfl rfl (fun z24 hz24 => ?_)
          refine h_iload_n (pc' := 37) rfl rfl rfl ?_
          refine h_iadd (pc' := 38) rfl rfl hz24 hz22 rfl (by omega) (by omega) (fun z25 hz25 => ?_)
          clear hz24
          refine h_iald (pc' := 39) (v := σ 65 ((σ 64 4) + 3)) rfl rfl rfl hz25 (by omega) (by omega) rfl (fun z26 hz26 => ?_)
          have tz26 := ty_65 hI ((σ 64 4) + 3)
          clear hz25
          refine h_aload_n (pc' := 40) rfl rfl rfl ?_
          refine h_iload_n (pc' := 41) rfl rfl rfl ?_
          have qz22 : z22 = (Int32.ofInt 3) := h_lit hz22 ci_3
          subst qz22
          refine h_str (pc' := 44) (x := (Int32.ofInt 114)) rfl rfl rfl rfl rfl ?_
          clear hz22
          refine h_ceq (tg := 49) (pc' := 47) rfl rfl rfl hz26 ci_114 (fun c27 => ?_) (fun c27 => ?_)
          · clear hz26
            refine h_iinc (pc' := 52) (b := 4) (M := fun z28 => [(2, .int z28), (0, .ref 64), (1, .ref 5)]) rfl rfl rfl rfl ci_3 ci_1 rfl (by omega) (by omega) (fun _ => rfl) (fun z28 hz28 => ?_)
            refine h_goto (pc' := 20) rfl rfl ?_
            refine h_iload_n (pc' := 21) rfl rfl rfl ?_
            refine h_aload_n (pc' := 22) rfl rfl rfl ?_
            refine h_str (pc' := 25) (x := (Int32.ofInt 5)) rfl rfl rfl rfl rfl ?_
            refine h_cge (tg := 55) (pc' := 28) rfl rfl rfl hz28 ci_5 (fun c29 => absurd c29 (by omega)) (fun c29 => ?_)
            refine h_aload_n (pc' := 29) rfl rfl rfl ?_
            refine h_getR (pc' := 32) rfl rfl rfl rfl rfl ?_
            refine h_aload_n (pc' := 33) rfl rfl rfl ?_
            refine h_getI (pc' := 36) (v := σ 64 4) rfl rfl rfl rfl rfl rfl (fun z30 hz30 => ?_)
            refine h_iload_n (pc' := 37) rfl rfl rfl ?_
            refine h_iadd (pc' := 38) rfl rfl hz30 hz28 rfl (by omega) (by omega) (fun z31 hz31 => ?_)
            clear hz30
            refine h_iald (pc' := 39) (v := σ 65 ((σ 64 4) + 4)) rfl rfl rfl hz31 (by omega) (by omega) rfl (fun z32 hz32 => ?_)
            have tz32 := ty_65 hI ((σ 64 4) + 4)
            clear hz31
            refine h_aload_n (pc' := 40) rfl rfl rfl ?_
            refine h_iload_n (pc' := 41) rfl rfl rfl ?_
            have qz28 : z28 = (Int32.ofInt 4) := h_lit hz28 ci_4
            subst qz28
            refine h_str (pc' := 44) (x := (Int32.ofInt 121)) rfl rfl rfl rfl rfl ?_
            clear hz28
            refine h_ceq (tg := 49) (pc' := 47) rfl rfl rfl hz32 ci_121 (fun c33 => ?_) (fun c33 => ?_)
            · clear hz32
              refine h_iinc (pc' := 52) (b := 5) (M := fun z34 => [(2, .int z34), (0, .ref 64), (1, .ref 5)]) rfl rfl rfl rfl ci_4 ci_1 rfl (by omega) (by omega) (fun _ => rfl) (fun z34 hz34 => ?_)
              refine h_goto (pc' := 20) rfl rfl ?_
              refine h_iload_n (pc' := 21) rfl rfl rfl ?_
              refine h_aload_n (pc' := 22) rfl rfl rfl ?_
              refine h_str (pc' := 25) (x := (Int32.ofInt 5)) rfl rfl rfl rfl rfl ?_
              refine h_cge (tg := 55) (pc' := 28) rfl rfl rfl hz34 ci_5 (fun c35 => ?_) (fun c35 => absurd c35 (by omega))
              refine h_iconst (pc' := 56) (x := (Int32.ofInt 1)) rfl rfl rfl ?_
              exact h_zret rfl rfl ci_1 (by omega) (kk _ _ ci_1 (by omega) (Or.inl ⟨rfl, by omega, by omega, by omega, by omega, by omega, by omega⟩))
            · clear hz32
              refine h_iconst (pc' := 48) (x := (Int32.ofInt 0)) rfl rfl rfl ?_
              exact h_zret rfl rfl ci_0 (by omega) (kk _ _ ci_0 (by omega) (Or.inr ⟨rfl, fun h => by unfold g_nm4 at h; omega⟩))
          · clear hz26
            refine h_iconst (pc' := 48) (x := (Int32.ofInt 0)) rfl rfl rfl ?_
            exact h_zret rfl rfl ci_0 (by omega) (kk _ _ ci_0 (by omega) (Or.inr ⟨rfl, fun h => by unfold g_nm4 at h; omega⟩))
        · clear hz20
          refine h_iconst (pc' := 48) (x := (Int32.ofInt 0)) rfl rfl rfl ?_
          exact h_zret rfl rfl ci_0 (by omega) (kk _ _ ci_0 (by omega) (Or.inr ⟨rfl, fun h => by unfold g_nm4 at h; omega⟩))
      · clear hz14
        refine h_iconst (pc' := 48) (x := (Int32.ofInt 0)) rfl rfl rfl ?_
        exact h_zret rfl rfl ci_0 (by omega) (kk _ _ ci_0 (by omega) (Or.inr ⟨rfl, fun h => by unfold g_nm4 at h; omega⟩))
    · clear hz8
      refine h_iconst (pc' := 48) (x := (Int32.ofInt 0)) rfl rfl rfl ?_
      exact h_zret rfl rfl ci_0 (by omega) (kk _ _ ci_0 (by omega) (Or.inr ⟨rfl, fun h => by unfold g_nm4 at h; omega⟩))
  · clear hz3
    refine h_iconst (pc' := 17) (x := (Int32.ofInt 0)) rfl rfl rfl ?_
    exact h_zret rfl rfl ci_0 (by omega) (kk _ _ ci_0 (by omega) (Or.inr ⟨rfl, fun h => by unfold g_nm4 at h; omega⟩))
set_option maxHeartbeats 100000000 in
theorem n_isName5 {ns : Nat} (σ : h_S) (hI : h_I σ) {Q : Option Value → h_S → Prop} (kk : ∀ (r : Int32) (b : Int) (hb : r.toInt = b), (0 ≤ b ∧ b ≤ 1) → ((b = 1 ∧ g_nm5 (σ 65) (σ 64 4) (σ 64 2 - σ 64 4)) ∨ (b = 0 ∧ ¬ g_nm5 (σ 65) (σ 64 4) (σ 64 2 - σ 64 4))) → Q (some (.int r)) σ) : h_T g_P (g_Y ns) 77 0 [(0, .ref 64), (1, .ref 6)] [] σ Q := by
  have ge0 := tf_64_2 hI
  have ge1 := tf_64_4 hI
  refine h_aload_n (pc' := 1) rfl rfl rfl ?_
  refine h_getI (pc' := 4) (v := σ 64 2) rfl rfl rfl rfl rfl rfl (fun z1 hz1 => ?_)
  have tz1 := tf_64_2 hI
  refine h_aload_n (pc' := 5) rfl rfl rfl ?_
  refine h_getI (pc' := 8) (v := σ 64 4) rfl rfl rfl rfl rfl rfl (fun z2 hz2 => ?_)
  have tz2 := tf_64_4 hI
  refine h_isub (pc' := 9) rfl rfl hz1 hz2 rfl (by omega) (by omega) (fun z3 hz3 => ?_)
  clear hz1 hz2
  refine h_aload_n (pc' := 10) rfl rfl rfl ?_
  refine h_str (pc' := 13) (x := (Int32.ofInt 4)) rfl rfl rfl rfl rfl ?_
  refine h_ceq (tg := 18) (pc' := 16) rfl rfl rfl hz3 ci_4 (fun c4 => ?_) (fun c4 => ?_)
  · clear hz3
    refine h_iconst (pc' := 19) (x := (Int32.ofInt 0)) rfl rfl rfl ?_
    refine h_istore_n (pc' := 20) (M := [(2, .int (Int32.ofInt 0)), (0, .ref 64), (1, .ref 6)]) rfl rfl rfl rfl ?_
    refine h_iload_n (pc' := 21) rfl rfl rfl ?_
    refine h_aload_n (pc' := 22) rfl rfl rfl ?_
    refine h_str (pc' := 25) (x := (Int32.ofInt 4)) rfl rfl rfl rfl rfl ?_
    refine h_cge (tg := 55) (pc' := 28) rfl rfl rfl ci_0 ci_4 (fun c5 => absurd c5 (by omega)) (fun c5 => ?_)
    refine h_aload_n (pc' := 29) rfl rfl rfl ?_
    refine h_getR (pc' := 32) rfl rfl rfl rfl rfl ?_
    refine h_aload_n (pc' := 33) rfl rfl rfl ?_
    refine h_getI (pc' := 36) (v := σ 64 4) rfl rfl rfl rfl rfl rfl (fun z6 hz6 => ?_)
    refine h_iload_n (pc' := 37) rfl rfl rfl ?_
    refine h_iadd (pc' := 38) rfl rfl hz6 ci_0 rfl (by omega) (by omega) (fun z7 hz7 => ?_)
    clear hz6
    refine h_iald (pc' := 39) (v := σ 65 ((σ 64 4) + 0)) rfl rfl rfl hz7 (by omega) (by omega) rfl (fun z8 hz8 => ?_)
    have tz8 := ty_65 hI ((σ 64 4) + 0)
    clear hz7
    refine h_aload_n (pc' := 40) rfl rfl rfl ?_
    refine h_iload_n (pc' := 41) rfl rfl rfl ?_
    refine h_str (pc' := 44) (x := (Int32.ofInt 102)) rfl rfl rfl rfl rfl ?_
    refine h_ceq (tg := 49) (pc' := 47) rfl rfl rfl hz8 ci_102 (fun c9 => ?_) (fun c9 => ?_)
    · clear hz8
      refine h_iinc (pc' := 52) (b := 1) (M := fun z10 => [(2, .int z10), (0, .ref 64), (1, .ref 6)]) rfl rfl rfl rfl ci_0 ci_1 rfl (by omega) (by omega) (fun _ => rfl) (fun z10 hz10 => ?_)
      refine h_goto (pc' := 20) rfl rfl ?_
      refine h_iload_n (pc' := 21) rfl rfl rfl ?_
      refine h_aload_n (pc' := 22) rfl rfl rfl ?_
      refine h_str (pc' := 25) (x := (Int32.ofInt 4)) rfl rfl rfl rfl rfl ?_
      refine h_cge (tg := 55) (pc' := 28) rfl rfl rfl hz10 ci_4 (fun c11 => absurd c11 (by omega)) (fun c11 => ?_)
      refine h_aload_n (pc' := 29) rfl rfl rfl ?_
      refine h_getR (pc' := 32) rfl rfl rfl rfl rfl ?_
      refine h_aload_n (pc' := 33) rfl rfl rfl ?_
      refine h_getI (pc' := 36) (v := σ 64 4) rfl rfl rfl rfl rfl rfl (fun z12 hz12 => ?_)
      refine h_iload_n (pc' := 37) rfl rfl rfl ?_
      refine h_iadd (pc' := 38) rfl rfl hz12 hz10 rfl (by omega) (by omega) (fun z13 hz13 => ?_)
      clear hz12
      refine h_iald (pc' := 39) (v := σ 65 ((σ 64 4) + 1)) rfl rfl rfl hz13 (by omega) (by omega) rfl (fun z14 hz14 => ?_)
      have tz14 := ty_65 hI ((σ 64 4) + 1)
      clear hz13
      refine h_aload_n (pc' := 40) rfl rfl rfl ?_
      refine h_iload_n (pc' := 41) rfl rfl rfl ?_
      have qz10 : z10 = (Int32.ofInt 1) := h_lit hz10 ci_1
      subst qz10
      refine h_str (pc' := 44) (x := (Int32.ofInt 101)) rfl rfl rfl rfl rfl ?_
      clear hz10
      refine h_ceq (tg := 49) (pc' := 47) rfl rfl rfl hz14 ci_101 (fun c15 => ?_) (fun c15 => ?_)
      · clear hz14
        refine h_iinc (pc' := 52) (b := 2) (M := fun z16 => [(2, .int z16), (0, .ref 64), (1, .ref 6)]) rfl rfl rfl rfl ci_1 ci_1 rfl (by omega) (by omega) (fun _ => rfl) (fun z16 hz16 => ?_)
        refine h_goto (pc' := 20) rfl rfl ?_
        refine h_iload_n (pc' := 21) rfl rfl rfl ?_
        refine h_aload_n (pc' := 22) rfl rfl rfl ?_
        refine h_str (pc' := 25) (x := (Int32.ofInt 4)) rfl rfl rfl rfl rfl ?_
        refine h_cge (tg := 55) (pc' := 28) rfl rfl rfl hz16 ci_4 (fun c17 => absurd c17 (by omega)) (fun c17 => ?_)
        refine h_aload_n (pc' := 29) rfl rfl rfl ?_
        refine h_getR (pc' := 32) rfl rfl rfl rfl rfl ?_
        refine h_aload_n (pc' := 33) rfl rfl rfl ?_
        refine h_getI (pc' := 36) (v := σ 64 4) rfl rfl rfl rfl rfl rfl (fun z18 hz18 => ?_)
        refine h_iload_n (pc' := 37) rfl rfl rfl ?_
        refine h_iadd (pc' := 38) rfl rfl hz18 hz16 rfl (by omega) (by omega) (fun z19 hz19 => ?_)
        clear hz18
        refine h_iald (pc' := 39) (v := σ 65 ((σ 64 4) + 2)) rfl rfl rfl hz19 (by omega) (by omega) rfl (fun z20 hz20 => ?_)
        have tz20 := ty_65 hI ((σ 64 4) + 2)
        clear hz19
        refine h_aload_n (pc' := 40) rfl rfl rfl ?_
        refine h_iload_n (pc' := 41) rfl rfl rfl ?_
        have qz16 : z16 = (Int32.ofInt 2) := h_lit hz16 ci_2
        subst qz16
        refine h_str (pc' := 44) (x := (Int32.ofInt 117)) rfl rfl rfl rfl rfl ?_
        clear hz16
        refine h_ceq (tg := 49) (pc' := 47) rfl rfl rfl hz20 ci_117 (fun c21 => ?_) (fun c21 => ?_)
        · clear hz20
          refine h_iinc (pc' := 52) (b := 3) (M := fun z22 => [(2, .int z22), (0, .ref 64), (1, .ref 6)]) rfl rfl rfl rfl ci_2 ci_1 rfl (by omega) (by omega) (fun _ => rfl) (fun z22 hz22 => ?_)
          refine h_goto (pc' := 20) rfl rfl ?_
          refine h_iload_n (pc' := 21) rfl rfl rfl ?_
          refine h_aload_n (pc' := 22) rfl rfl rfl ?_
          refine h_str (pc' := 25) (x := (Int32.ofInt 4)) rfl rfl rfl rfl rfl ?_
          refine h_cge (tg := 55) (pc' := 28) rfl rfl rfl hz22 ci_4 (fun c23 => absurd c23 (by omega)) (fun c23 => ?_)
          refine h_aload_n (pc' := 29) rfl rfl rfl ?_
          refine h_getR (pc' := 32) rfl rfl rfl rfl rfl ?_
          refine h_aload_n (pc' := 33) rfl rfl rfl ?_
          refine h_getI (pc' := 36) (v := σ 64 4) rfl rfl rfl rfl rfl rfl (fun z24 hz24 => ?_)
          refine h_iload_n (pc' := 37) rfl rfl rfl ?_
          refine h_iadd (pc' := 38) rfl rfl hz24 hz22 rfl (by omega) (by omega) (fun z25 hz25 => ?_)
          clear hz24
          refine h_iald (pc' := 39) (v := σ 65 ((σ 64 4) + 3)) rfl rfl rfl hz25 (by omega) (by omega) rfl (fun z26 hz26 => ?_)
          have tz26 := ty_65 hI ((σ 64 4) + 3)
          clear hz25
          refine h_aload_n (pc' := 40) rfl rfl rfl ?_
          refine h_iload_n (pc' := 41) rfl rfl rfl ?_
          have qz22 : z22 = (Int32.ofInt 3) := h_lit hz22 ci_3
          subst qz22
          refine h_str (pc' := 44) (x := (Int32.ofInt 100)) rfl rfl rfl rfl rfl ?_
          clear hz22
          refine h_ceq (tg := 49) (pc' := 47) rfl rfl rfl hz26 ci_100 (fun c27 => ?_) (fun c27 => ?_)
          · clear hz26
            refine h_iinc (pc' := 52) (b := 4) (M := fun z28 => [(2, .int z28), (0, .ref 64), (1, .ref 6)]) rfl rfl rfl rfl ci_3 ci_1 rfl (by omega) (by omega) (fun _ => rfl) (fun z28 hz28 => ?_)
            refine h_goto (pc' := 20) rfl rfl ?_
            refine h_iload_n (pc' := 21) rfl rfl rfl ?_
            refine h_aload_n (pc' := 22) rfl rfl rfl ?_
            refine h_str (pc' := 25) (x := (Int32.ofInt 4)) rfl rfl rfl rfl rfl ?_
            refine h_cge (tg := 55) (pc' := 28) rfl rfl rfl hz28 ci_4 (fun c29 => ?_) (fun c29 => absurd c29 (by omega))
            refine h_iconst (pc' := 56) (x := (Int32.ofInt 1)) rfl rfl rfl ?_
            exact h_zret rfl rfl ci_1 (by omega) (kk _ _ ci_1 (by omega) (Or.inl ⟨rfl, by omega, by omega, by omega, by omega, by omega⟩))
          · clear hz26
            refine h_iconst (pc' := 48) (x := (Int32.ofInt 0)) rfl rfl rfl ?_
            exact h_zret rfl rfl ci_0 (by omega) (kk _ _ ci_0 (by omega) (Or.inr ⟨rfl, fun h => by unfold g_nm5 at h; omega⟩))
        · clear hz20
          refine h_iconst (pc' := 48) (x := (Int32.ofInt 0)) rfl rfl rfl ?_
          exact h_zret rfl rfl ci_0 (by omega) (kk _ _ ci_0 (by omega) (Or.inr ⟨rfl, fun h => by unfold g_nm5 at h; omega⟩))
      · clear hz14
        refine h_iconst (pc' := 48) (x := (Int32.ofInt 0)) rfl rfl rfl ?_
        exact h_zret rfl rfl ci_0 (by omega) (kk _ _ ci_0 (by omega) (Or.inr ⟨rfl, fun h => by unfold g_nm5 at h; omega⟩))
    · clear hz8
      refine h_iconst (pc' := 48) (x := (Int32.ofInt 0)) rfl rfl rfl ?_
      exact h_zret rfl rfl ci_0 (by omega) (kk _ _ ci_0 (by omega) (Or.inr ⟨rfl, fun h => by unfold g_nm5 at h; omega⟩))
  · clear hz3
    refine h_iconst (pc' := 17) (x := (Int32.ofInt 0)) rfl rfl rfl ?_
    exact h_zret rfl rfl ci_0 (by omega) (kk _ _ ci_0 (by omega) (Or.inr ⟨rfl, fun h => by unfold g_nm5 at h; omega⟩))
set_option maxHeartbeats 100000000 in
theorem n_isName6 {ns : Nat} (σ : h_S) (hI : h_I σ) {Q : Option Value → h_S → Prop} (kk : ∀ (r : Int32) (b : Int) (hb : r.toInt = b), (0 ≤ b ∧ b ≤ 1) → ((b = 1 ∧ g_nm6 (σ 65) (σ 64 4) (σ 64 2 - σ 64 4)) ∨ (b = 0 ∧ ¬ g_nm6 (σ 65) (σ 64 4) (σ 64 2 - σ 64 4))) → Q (some (.int r)) σ) : h_T g_P (g_Y ns) 77 0 [(0, .ref 64), (1, .ref 7)] [] σ Q := by
  have ge0 := tf_64_2 hI
  have ge1 := tf_64_4 hI
  refine h_aload_n (pc' := 1) rfl rfl rfl ?_
  refine h_getI (pc' := 4) (v := σ 64 2) rfl rfl rfl rfl rfl rfl (fun z1 hz1 => ?_)
  have tz1 := tf_64_2 hI
  refine h_aload_n (pc' := 5) rfl rfl rfl ?_
  refine h_getI (pc' := 8) (v := σ 64 4) rfl rfl rfl rfl rfl rfl (fun z2 hz2 => ?_)
  have tz2 := tf_64_4 hI
  refine h_isub (pc' := 9) rfl rfl hz1 hz2 rfl (by omega) (by omega) (fun z3 hz3 => ?_)
  clear hz1 hz2
  refine h_aload_n (pc' := 10) rfl rfl rfl ?_
  refine h_str (pc' := 13) (x := (Int32.ofInt 4)) rfl rfl rfl rfl rfl ?_
  refine h_ceq (tg := 18) (pc' := 16) rfl rfl rfl hz3 ci_4 (fun c4 => ?_) (fun c4 => ?_)
  · clear hz3
    refine h_iconst (pc' := 19) (x := (Int32.ofInt 0)) rfl rfl rfl ?_
    refine h_istore_n (pc' := 20) (M := [(2, .int (Int32.ofInt 0)), (0, .ref 64), (1, .ref 7)]) rfl rfl rfl rfl ?_
    refine h_iload_n (pc' := 21) rfl rfl rfl ?_
    refine h_aload_n (pc' := 22) rfl rfl rfl ?_
    refine h_str (pc' := 25) (x := (Int32.ofInt 4)) rfl rfl rfl rfl rfl ?_
    refine h_cge (tg := 55) (pc' := 28) rfl rfl rfl ci_0 ci_4 (fun c5 => absurd c5 (by omega)) (fun c5 => ?_)
    refine h_aload_n (pc' := 29) rfl rfl rfl ?_
    refine h_getR (pc' := 32) rfl rfl rfl rfl rfl ?_
    refine h_aload_n (pc' := 33) rfl rfl rfl ?_
    refine h_getI (pc' := 36) (v := σ 64 4) rfl rfl rfl rfl rfl rfl (fun z6 hz6 => ?_)
    refine h_iload_n (pc' := 37) rfl rfl rfl ?_
    refine h_iadd (pc' := 38) rfl rfl hz6 ci_0 rfl (by omega) (by omega) (fun z7 hz7 => ?_)
    clear hz6
    refine h_iald (pc' := 39) (v := σ 65 ((σ 64 4) + 0)) rfl rfl rfl hz7 (by omega) (by omega) rfl (fun z8 hz8 => ?_)
    have tz8 := ty_65 hI ((σ 64 4) + 0)
    clear hz7
    refine h_aload_n (pc' := 40) rfl rfl rfl ?_
    refine h_iload_n (pc' := 41) rfl rfl rfl ?_
    refine h_str (pc' := 44) (x := (Int32.ofInt 103)) rfl rfl rfl rfl rfl ?_
    refine h_ceq (tg := 49) (pc' := 47) rfl rfl rfl hz8 ci_103 (fun c9 => ?_) (fun c9 => ?_)
    · clear hz8
      refine h_iinc (pc' := 52) (b := 1) (M := fun z10 => [(2, .int z10), (0, .ref 64), (1, .ref 7)]) rfl rfl rfl rfl ci_0 ci_1 rfl (by omega) (by omega) (fun _ => rfl) (fun z10 hz10 => ?_)
      refine h_goto (pc' := 20) rfl rfl ?_
      refine h_iload_n (pc' := 21) rfl rfl rfl ?_
      refine h_aload_n (pc' := 22) rfl rfl rfl ?_
      refine h_str (pc' := 25) (x := (Int32.ofInt 4)) rfl rfl rfl rfl rfl ?_
      refine h_cge (tg := 55) (pc' := 28) rfl rfl rfl hz10 ci_4 (fun c11 => absurd c11 (by omega)) (fun c11 => ?_)
      refine h_aload_n (pc' := 29) rfl rfl rfl ?_
      refine h_getR (pc' := 32) rfl rfl rfl rfl rfl ?_
      refine h_aload_n (pc' := 33) rfl rfl rfl ?_
      refine h_getI (pc' := 36) (v := σ 64 4) rfl rfl rfl rfl rfl rfl (fun z12 hz12 => ?_)
      refine h_iload_n (pc' := 37) rfl rfl rfl ?_
      refine h_iadd (pc' := 38) rfl rfl hz12 hz10 rfl (by omega) (by omega) (fun z13 hz13 => ?_)
      clear hz12
      refine h_iald (pc' := 39) (v := σ 65 ((σ 64 4) + 1)) rfl rfl rfl hz13 (by omega) (by omega) rfl (fun z14 hz14 => ?_)
      have tz14 := ty_65 hI ((σ 64 4) + 1)
      clear hz13
      refine h_aload_n (pc' := 40) rfl rfl rfl ?_
      refine h_iload_n (pc' := 41) rfl rfl rfl ?_
      have qz10 : z10 = (Int32.ofInt 1) := h_lit hz10 ci_1
      subst qz10
      refine h_str (pc' := 44) (x := (Int32.ofInt 97)) rfl rfl rfl rfl rfl ?_
      clear hz10
      refine h_ceq (tg := 49) (pc' := 47) rfl rfl rfl hz14 ci_97 (fun c15 => ?_) (fun c15 => ?_)
      · clear hz14
        refine h_iinc (pc' := 52) (b := 2) (M := fun z16 => [(2, .int z16), (0, .ref 64), (1, .ref 7)]) rfl rfl rfl rfl ci_1 ci_1 rfl (by omega) (by omega) (fun _ => rfl) (fun z16 hz16 => ?_)
        refine h_goto (pc' := 20) rfl rfl ?_
        refine h_iload_n (pc' := 21) rfl rfl rfl ?_
        refine h_aload_n (pc' := 22) rfl rfl rfl ?_
        refine h_str (pc' := 25) (x := (Int32.ofInt 4)) rfl rfl rfl rfl rfl ?_
        refine h_cge (tg := 55) (pc' := 28) rfl rfl rfl hz16 ci_4 (fun c17 => absurd c17 (by omega)) (fun c17 => ?_)
        refine h_aload_n (pc' := 29) rfl rfl rfl ?_
        refine h_getR (pc' := 32) rfl rfl rfl rfl rfl ?_
        refine h_aload_n (pc' := 33) rfl rfl rfl ?_
        refine h_getI (pc' := 36) (v := σ 64 4) rfl rfl rfl rfl rfl rfl (fun z18 hz18 => ?_)
        refine h_iload_n (pc' := 37) rfl rfl rfl ?_
        refine h_iadd (pc' := 38) rfl rfl hz18 hz16 rfl (by omega) (by omega) (fun z19 hz19 => ?_)
        clear hz18
        refine h_iald (pc' := 39) (v := σ 65 ((σ 64 4) + 2)) rfl rfl rfl hz19 (by omega) (by omega) rfl (fun z20 hz20 => ?_)
        have tz20 := ty_65 hI ((σ 64 4) + 2)
        clear hz19
        refine h_aload_n (pc' := 40) rfl rfl rfl ?_
        refine h_iload_n (pc' := 41) rfl rfl rfl ?_
        have qz16 : z16 = (Int32.ofInt 2) := h_lit hz16 ci_2
        subst qz16
        refine h_str (pc' := 44) (x := (Int32.ofInt 116)) rfl rfl rfl rfl rfl ?_
        clear hz16
        refine h_ceq (tg := 49) (pc' := 47) rfl rfl rfl hz20 ci_116 (fun c21 => ?_) (fun c21 => ?_)
        · clear hz20
          refine h_iinc (pc' := 52) (b := 3) (M := fun z22 => [(2, .int z22), (0, .ref 64), (1, .ref 7)]) rfl rfl rfl rfl ci_2 ci_1 rfl (by omega) (by omega) (fun _ => rfl) (fun z22 hz22 => ?_)
          refine h_goto (pc' := 20) rfl rfl ?_
          refine h_iload_n (pc' := 21) rfl rfl rfl ?_
          refine h_aload_n (pc' := 22) rfl rfl rfl ?_
          refine h_str (pc' := 25) (x := (Int32.ofInt 4)) rfl rfl rfl rfl rfl ?_
          refine h_cge (tg := 55) (pc' := 28) rfl rfl rfl hz22 ci_4 (fun c23 => absurd c23 (by omega)) (fun c23 => ?_)
          refine h_aload_n (pc' := 29) rfl rfl rfl ?_
          refine h_getR (pc' := 32) rfl rfl rfl rfl rfl ?_
          refine h_aload_n (pc' := 33) rfl rfl rfl ?_
          refine h_getI (pc' := 36) (v := σ 64 4) rfl rfl rfl rfl rfl rfl (fun z24 hz24 => ?_)
          refine h_iload_n (pc' := 37) rfl rfl rfl ?_
          refine h_iadd (pc' := 38) rfl rfl hz24 hz22 rfl (by omega) (by omega) (fun z25 hz25 => ?_)
          clear hz24
          refine h_iald (pc' := 39) (v := σ 65 ((σ 64 4) + 3)) rfl rfl rfl hz25 (by omega) (by omega) rfl (fun z26 hz26 => ?_)
          have tz26 := ty_65 hI ((σ 64 4) + 3)
          clear hz25
          refine h_aload_n (pc' := 40) rfl rfl rfl ?_
          refine h_iload_n (pc' := 41) rfl rfl rfl ?_
          have qz22 : z22 = (Int32.ofInt 3) := h_lit hz22 ci_3
          subst qz22
          refine h_str (pc' := 44) (x := (Int32.ofInt 101)) rfl rfl rfl rfl rfl ?_
          clear hz22
          refine h_ceq (tg := 49) (pc' := 47) rfl rfl rfl hz26 ci_101 (fun c27 => ?_) (fun c27 => ?_)
          · clear hz26
            refine h_iinc (pc' := 52) (b := 4) (M := fun z28 => [(2, .int z28), (0, .ref 64), (1, .ref 7)]) rfl rfl rfl rfl ci_3 ci_1 rfl (by omega) (by omega) (fun _ => rfl) (fun z28 hz28 => ?_)
            refine h_goto (pc' := 20) rfl rfl ?_
            refine h_iload_n (pc' := 21) rfl rfl rfl ?_
            refine h_aload_n (pc' := 22) rfl rfl rfl ?_
            refine h_str (pc' := 25) (x := (Int32.ofInt 4)) rfl rfl rfl rfl rfl ?_
            refine h_cge (tg := 55) (pc' := 28) rfl rfl rfl hz28 ci_4 (fun c29 => ?_) (fun c29 => absurd c29 (by omega))
            refine h_iconst (pc' := 56) (x := (Int32.ofInt 1)) rfl rfl rfl ?_
            exact h_zret rfl rfl ci_1 (by omega) (kk _ _ ci_1 (by omega) (Or.inl ⟨rfl, by omega, by omega, by omega, by omega, by omega⟩))
          · clear hz26
            refine h_iconst (pc' := 48) (x := (Int32.ofInt 0)) rfl rfl rfl ?_
            exact h_zret rfl rfl ci_0 (by omega) (kk _ _ ci_0 (by omega) (Or.inr ⟨rfl, fun h => by unfold g_nm6 at h; omega⟩))
        · clear hz20
          refine h_iconst (pc' := 48) (x := (Int32.ofInt 0)) rfl rfl rfl ?_
          exact h_zret rfl rfl ci_0 (by omega) (kk _ _ ci_0 (by omega) (Or.inr ⟨rfl, fun h => by unfold g_nm6 at h; omega⟩))
      · clear hz14
        refine h_iconst (pc' := 48) (x := (Int32.ofInt 0)) rfl rfl rfl ?_
        exact h_zret rfl rfl ci_0 (by omega) (kk _ _ ci_0 (by omega) (Or.inr ⟨rfl, fun h => by unfold g_nm6 at h; omega⟩))
    · clear hz8
      refine h_iconst (pc' := 48) (x := (Int32.ofInt 0)) rfl rfl rfl ?_
      exact h_zret rfl rfl ci_0 (by omega) (kk _ _ ci_0 (by omega) (Or.inr ⟨rfl, fun h => by unfold g_nm6 at h; omega⟩))
  · clear hz3
    refine h_iconst (pc' := 17) (x := (Int32.ofInt 0)) rfl rfl rfl ?_
    exact h_zret rfl rfl ci_0 (by omega) (kk _ _ ci_0 (by omega) (Or.inr ⟨rfl, fun h => by unfold g_nm6 at h; omega⟩))
set_option maxHeartbeats 100000000 in
theorem n_isName7 {ns : Nat} (σ : h_S) (hI : h_I σ) {Q : Option Value → h_S → Prop} (kk : ∀ (r : Int32) (b : Int) (hb : r.toInt = b), (0 ≤ b ∧ b ≤ 1) → ((b = 1 ∧ g_nm7 (σ 65) (σ 64 4) (σ 64 2 - σ 64 4)) ∨ (b = 0 ∧ ¬ g_nm7 (σ 65) (σ 64 4) (σ 64 2 - σ 64 4))) → Q (some (.int r)) σ) : h_T g_P (g_Y ns) 77 0 [(0, .ref 64), (1, .ref 8)] [] σ Q := by
  have ge0 := tf_64_2 hI
  have ge1 := tf_64_4 hI
  refine h_aload_n (pc' := 1) rfl rfl rfl ?_
  refine h_getI (pc' := 4) (v := σ 64 2) rfl rfl rfl rfl rfl rfl (fun z1 hz1 => ?_)
  have tz1 := tf_64_2 hI
  refine h_aload_n (pc' := 5) rfl rfl rfl ?_
  refine h_getI (pc' := 8) (v := σ 64 4) rfl rfl rfl rfl rfl rfl (fun z2 hz2 => ?_)
  have tz2 := tf_64_4 hI
  refine h_isub (pc' := 9) rfl rfl hz1 hz2 rfl (by omega) (by omega) (fun z3 hz3 => ?_)
  clear hz1 hz2
  refine h_aload_n (pc' := 10) rfl rfl rfl ?_
  refine h_str (pc' := 13) (x := (Int32.ofInt 4)) rfl rfl rfl rfl rfl ?_
  refine h_ceq (tg := 18) (pc' := 16) rfl rfl rfl hz3 ci_4 (fun c4 => ?_) (fun c4 => ?_)
  · clear hz3
    refine h_iconst (pc' := 19) (x := (Int32.ofInt 0)) rfl rfl rfl ?_
    refine h_istore_n (pc' := 20) (M := [(2, .int (Int32.ofInt 0)), (0, .ref 64), (1, .ref 8)]) rfl rfl rfl rfl ?_
    refine h_iload_n (pc' := 21) rfl rfl rfl ?_
    refine h_aload_n (pc' := 22) rfl rfl rfl ?_
    refine h_str (pc' := 25) (x := (Int32.ofInt 4)) rfl rfl rfl rfl rfl ?_
    refine h_cge (tg := 55) (pc' := 28) rfl rfl rfl ci_0 ci_4 (fun c5 => absurd c5 (by omega)) (fun c5 => ?_)
    refine h_aload_n (pc' := 29) rfl rfl rfl ?_
    refine h_getR (pc' := 32) rfl rfl rfl rfl rfl ?_
    refine h_aload_n (pc' := 33) rfl rfl rfl ?_
    refine h_getI (pc' := 36) (v := σ 64 4) rfl rfl rfl rfl rfl rfl (fun z6 hz6 => ?_)
    refine h_iload_n (pc' := 37) rfl rfl rfl ?_
    refine h_iadd (pc' := 38) rfl rfl hz6 ci_0 rfl (by omega) (by omega) (fun z7 hz7 => ?_)
    clear hz6
    refine h_iald (pc' := 39) (v := σ 65 ((σ 64 4) + 0)) rfl rfl rfl hz7 (by omega) (by omega) rfl (fun z8 hz8 => ?_)
    have tz8 := ty_65 hI ((σ 64 4) + 0)
    clear hz7
    refine h_aload_n (pc' := 40) rfl rfl rfl ?_
    refine h_iload_n (pc' := 41) rfl rfl rfl ?_
    refine h_str (pc' := 44) (x := (Int32.ofInt 112)) rfl rfl rfl rfl rfl ?_
    refine h_ceq (tg := 49) (pc' := 47) rfl rfl rfl hz8 ci_112 (fun c9 => ?_) (fun c9 => ?_)
    · clear hz8
      refine h_iinc (pc' := 52) (b := 1) (M := fun z10 => [(2, .int z10), (0, .ref 64), (1, .ref 8)]) rfl rfl rfl rfl ci_0 ci_1 rfl (by omega) (by omega) (fun _ => rfl) (fun z10 hz10 => ?_)
      refine h_goto (pc' := 20) rfl rfl ?_
      refine h_iload_n (pc' := 21) rfl rfl rfl ?_
      refine h_aload_n (pc' := 22) rfl rfl rfl ?_
      refine h_str (pc' := 25) (x := (Int32.ofInt 4)) rfl rfl rfl rfl rfl ?_
      refine h_cge (tg := 55) (pc' := 28) rfl rfl rfl hz10 ci_4 (fun c11 => absurd c11 (by omega)) (fun c11 => ?_)
      refine h_aload_n (pc' := 29) rfl rfl rfl ?_
      refine h_getR (pc' := 32) rfl rfl rfl rfl rfl ?_
      refine h_aload_n (pc' := 33) rfl rfl rfl ?_
      refine h_getI (pc' := 36) (v := σ 64 4) rfl rfl rfl rfl rfl rfl (fun z12 hz12 => ?_)
      refine h_iload_n (pc' := 37) rfl rfl rfl ?_
      refine h_iadd (pc' := 38) rfl rfl hz12 hz10 rfl (by omega) (by omega) (fun z13 hz13 => ?_)
      clear hz12
      refine h_iald (pc' := 39) (v := σ 65 ((σ 64 4) + 1)) rfl rfl rfl hz13 (by omega) (by omega) rfl (fun z14 hz14 => ?_)
      have tz14 := ty_65 hI ((σ 64 4) + 1)
      clear hz13
      refine h_aload_n (pc' := 40) rfl rfl rfl ?_
      refine h_iload_n (pc' := 41) rfl rfl rfl ?_
      have qz10 : z10 = (Int32.ofInt 1) := h_lit hz10 ci_1
      subst qz10
      refine h_str (pc' := 44) (x := (Int32.ofInt 108)) rfl rfl rfl rfl rfl ?_
      clear hz10
      refine h_ceq (tg := 49) (pc' := 47) rfl rfl rfl hz14 ci_108 (fun c15 => ?_) (fun c15 => ?_)
      · clear hz14
        refine h_iinc (pc' := 52) (b := 2) (M := fun z16 => [(2, .int z16), (0, .ref 64), (1, .ref 8)]) rfl rfl rfl rfl ci_1 ci_1 rfl (by omega) (by omega) (fun _ => rfl) (fun z16 hz16 => ?_)
        refine h_goto (pc' := 20) rfl rfl ?_
        refine h_iload_n (pc' := 21) rfl rfl rfl ?_
        refine h_aload_n (pc' := 22) rfl rfl rfl ?_
        refine h_str (pc' := 25) (x := (Int32.ofInt 4)) rfl rfl rfl rfl rfl ?_
        refine h_cge (tg := 55) (pc' := 28) rfl rfl rfl hz16 ci_4 (fun c17 => absurd c17 (by omega)) (fun c17 => ?_)
        refine h_aload_n (pc' := 29) rfl rfl rfl ?_
        refine h_getR (pc' := 32) rfl rfl rfl rfl rfl ?_
        refine h_aload_n (pc' := 33) rfl rfl rfl ?_
        refine h_getI (pc' := 36) (v := σ 64 4) rfl rfl rfl rfl rfl rfl (fun z18 hz18 => ?_)
        refine h_iload_n (pc' := 37) rfl rfl rfl ?_
        refine h_iadd (pc' := 38) rfl rfl hz18 hz16 rfl (by omega) (by omega) (fun z19 hz19 => ?_)
        clear hz18
        refine h_iald (pc' := 39) (v := σ 65 ((σ 64 4) + 2)) rfl rfl rfl hz19 (by omega) (by omega) rfl (fun z20 hz20 => ?_)
        have tz20 := ty_65 hI ((σ 64 4) + 2)
        clear hz19
        refine h_aload_n (pc' := 40) rfl rfl rfl ?_
        refine h_iload_n (pc' := 41) rfl rfl rfl ?_
        have qz16 : z16 = (Int32.ofInt 2) := h_lit hz16 ci_2
        subst qz16
        refine h_str (pc' := 44) (x := (Int32.ofInt 97)) rfl rfl rfl rfl rfl ?_
        clear hz16
        refine h_ceq (tg := 49) (pc' := 47) rfl rfl rfl hz20 ci_97 (fun c21 => ?_) (fun c21 => ?_)
        · clear hz20
          refine h_iinc (pc' := 52) (b := 3) (M := fun z22 => [(2, .int z22), (0, .ref 64), (1, .ref 8)]) rfl rfl rfl rfl ci_2 ci_1 rfl (by omega) (by omega) (fun _ => rfl) (fun z22 hz22 => ?_)
          refine h_goto (pc' := 20) rfl rfl ?_
          refine h_iload_n (pc' := 21) rfl rfl rfl ?_
          refine h_aload_n (pc' := 22) rfl rfl rfl ?_
          refine h_str (pc' := 25) (x := (Int32.ofInt 4)) rfl rfl rfl rfl rfl ?_
          refine h_cge (tg := 55) (pc' := 28) rfl rfl rfl hz22 ci_4 (fun c23 => absurd c23 (by omega)) (fun c23 => ?_)
          refine h_aload_n (pc' := 29) rfl rfl rfl ?_
          refine h_getR (pc' := 32) rfl rfl rfl rfl rfl ?_
          refine h_aload_n (pc' := 33) rfl rfl rfl ?_
          refine h_getI (pc' := 36) (v := σ 64 4) rfl rfl rfl rfl rfl rfl (fun z24 hz24 => ?_)
          refine h_iload_n (pc' := 37) rfl rfl rfl ?_
          refine h_iadd (pc' := 38) rfl rfl hz24 hz22 rfl (by omega) (by omega) (fun z25 hz25 => ?_)
          clear hz24
          refine h_iald (pc' := 39) (v := σ 65 ((σ 64 4) + 3)) rfl rfl rfl hz25 (by omega) (by omega) rfl (fun z26 hz26 => ?_)
          have tz26 := ty_65 hI ((σ 64 4) + 3)
          clear hz25
          refine h_aload_n (pc' := 40) rfl rfl rfl ?_
          refine h_iload_n (pc' := 41) rfl rfl rfl ?_
          have qz22 : z22 = (Int32.ofInt 3) := h_lit hz22 ci_3
          subst qz22
          refine h_str (pc' := 44) (x := (Int32.ofInt 110)) rfl rfl rfl rfl rfl ?_
          clear hz22
          refine h_ceq (tg := 49) (pc' := 47) rfl rfl rfl hz26 ci_110 (fun c27 => ?_) (fun c27 => ?_)
          · clear hz26
            refine h_iinc (pc' := 52) (b := 4) (M := fun z28 => [(2, .int z28), (0, .ref 64), (1, .ref 8)]) rfl rfl rfl rfl ci_3 ci_1 rfl (by omega) (by omega) (fun _ => rfl) (fun z28 hz28 => ?_)
            refine h_goto (pc' := 20) rfl rfl ?_
            refine h_iload_n (pc' := 21) rfl rfl rfl ?_
            refine h_aload_n (pc' := 22) rfl rfl rfl ?_
            refine h_str (pc' := 25) (x := (Int32.ofInt 4)) rfl rfl rfl rfl rfl ?_
            refine h_cge (tg := 55) (pc' := 28) rfl rfl rfl hz28 ci_4 (fun c29 => ?_) (fun c29 => absurd c29 (by omega))
            refine h_iconst (pc' := 56) (x := (Int32.ofInt 1)) rfl rfl rfl ?_
            exact h_zret rfl rfl ci_1 (by omega) (kk _ _ ci_1 (by omega) (Or.inl ⟨rfl, by omega, by omega, by omega, by omega, by omega⟩))
          · clear hz26
            refine h_iconst (pc' := 48) (x := (Int32.ofInt 0)) rfl rfl rfl ?_
            exact h_zret rfl rfl ci_0 (by omega) (kk _ _ ci_0 (by omega) (Or.inr ⟨rfl, fun h => by unfold g_nm7 at h; omega⟩))
        · clear hz20
          refine h_iconst (pc' := 48) (x := (Int32.ofInt 0)) rfl rfl rfl ?_
          exact h_zret rfl rfl ci_0 (by omega) (kk _ _ ci_0 (by omega) (Or.inr ⟨rfl, fun h => by unfold g_nm7 at h; omega⟩))
      · clear hz14
        refine h_iconst (pc' := 48) (x := (Int32.ofInt 0)) rfl rfl rfl ?_
        exact h_zret rfl rfl ci_0 (by omega) (kk _ _ ci_0 (by omega) (Or.inr ⟨rfl, fun h => by unfold g_nm7 at h; omega⟩))
    · clear hz8
      refine h_iconst (pc' := 48) (x := (Int32.ofInt 0)) rfl rfl rfl ?_
      exact h_zret rfl rfl ci_0 (by omega) (kk _ _ ci_0 (by omega) (Or.inr ⟨rfl, fun h => by unfold g_nm7 at h; omega⟩))
  · clear hz3
    refine h_iconst (pc' := 17) (x := (Int32.ofInt 0)) rfl rfl rfl ?_
    exact h_zret rfl rfl ci_0 (by omega) (kk _ _ ci_0 (by omega) (Or.inr ⟨rfl, fun h => by unfold g_nm7 at h; omega⟩))
set_option maxHeartbeats 100000000 in
theorem n_whichName {ns : Nat} (σ : h_S) (hI : h_I σ) {Q : Option Value → h_S → Prop} (kk : ∀ (r : Int32) (b : Int) (hb : r.toInt = b), ((-4) ≤ b ∧ b ≤ 7) → (g_fst (σ 65) (σ 64 4) (σ 64 2 - σ 64 4) b) → Q (some (.int r)) σ) : h_T g_P (g_Y ns) 76 0 [(0, .ref 64)] [] σ Q := by
  refine h_aload_n (pc' := 1) rfl rfl rfl ?_
  refine h_ldcS (pc' := 3) (q := 1) rfl rfl rfl ?_
  refine h_call (sp := false) (pc' := 6) (M := [(0, .ref 64), (1, .ref 1)]) rfl rfl rfl rfl rfl rfl rfl rfl ?_
  refine n_isName0 _ hI  (fun r1 br1 hr1 tr1 ps2_0 => h_Kv ?_)
  refine h_zeq (tg := 11) (pc' := 9) rfl rfl rfl hr1 (fun c3 => ?_) (fun c3 => ?_)
  · refine h_aload_n (pc' := 12) rfl rfl rfl ?_
    refine h_ldcS (pc' := 14) (q := 2) rfl rfl rfl ?_
    refine h_call (sp := false) (pc' := 17) (M := [(0, .ref 64), (1, .ref 2)]) rfl rfl rfl rfl rfl rfl rfl rfl ?_
    refine n_isName1 _ hI  (fun r4 br4 hr4 tr4 ps5_0 => h_Kv ?_)
    refine h_zeq (tg := 22) (pc' := 20) rfl rfl rfl hr4 (fun c6 => ?_) (fun c6 => ?_)
    · refine h_aload_n (pc' := 23) rfl rfl rfl ?_
      refine h_ldcS (pc' := 25) (q := 3) rfl rfl rfl ?_
      refine h_call (sp := false) (pc' := 28) (M := [(0, .ref 64), (1, .ref 3)]) rfl rfl rfl rfl rfl rfl rfl rfl ?_
      refine n_isName2 _ hI  (fun r7 br7 hr7 tr7 ps8_0 => h_Kv ?_)
      refine h_zeq (tg := 33) (pc' := 31) rfl rfl rfl hr7 (fun c9 => ?_) (fun c9 => ?_)
      · refine h_aload_n (pc' := 34) rfl rfl rfl ?_
        refine h_ldcS (pc' := 36) (q := 4) rfl rfl rfl ?_
        refine h_call (sp := false) (pc' := 39) (M := [(0, .ref 64), (1, .ref 4)]) rfl rfl rfl rfl rfl rfl rfl rfl ?_
        refine n_isName3 _ hI  (fun r10 br10 hr10 tr10 ps11_0 => h_Kv ?_)
        refine h_zeq (tg := 44) (pc' := 42) rfl rfl rfl hr10 (fun c12 => ?_) (fun c12 => ?_)
        · refine h_aload_n (pc' := 45) rfl rfl rfl ?_
          refine h_ldcS (pc' := 47) (q := 5) rfl rfl rfl ?_
          refine h_call (sp := false) (pc' := 50) (M := [(0, .ref 64), (1, .ref 5)]) rfl rfl rfl rfl rfl rfl rfl rfl ?_
          refine n_isName4 _ hI  (fun r13 br13 hr13 tr13 ps14_0 => h_Kv ?_)
          refine h_zeq (tg := 55) (pc' := 53) rfl rfl rfl hr13 (fun c15 => ?_) (fun c15 => ?_)
          · refine h_aload_n (pc' := 56) rfl rfl rfl ?_
            refine h_ldcS (pc' := 58) (q := 6) rfl rfl rfl ?_
            refine h_call (sp := false) (pc' := 61) (M := [(0, .ref 64), (1, .ref 6)]) rfl rfl rfl rfl rfl rfl rfl rfl ?_
            refine n_isName5 _ hI  (fun r16 br16 hr16 tr16 ps17_0 => h_Kv ?_)
            refine h_zeq (tg := 66) (pc' := 64) rfl rfl rfl hr16 (fun c18 => ?_) (fun c18 => ?_)
            · refine h_aload_n (pc' := 67) rfl rfl rfl ?_
              refine h_ldcS (pc' := 69) (q := 7) rfl rfl rfl ?_
              refine h_call (sp := false) (pc' := 72) (M := [(0, .ref 64), (1, .ref 7)]) rfl rfl rfl rfl rfl rfl rfl rfl ?_
              refine n_isName6 _ hI  (fun r19 br19 hr19 tr19 ps20_0 => h_Kv ?_)
              refine h_zeq (tg := 78) (pc' := 75) rfl rfl rfl hr19 (fun c21 => ?_) (fun c21 => ?_)
              · refine h_aload_n (pc' := 79) rfl rfl rfl ?_
                refine h_ldcS (pc' := 81) (q := 8) rfl rfl rfl ?_
                refine h_call (sp := false) (pc' := 84) (M := [(0, .ref 64), (1, .ref 8)]) rfl rfl rfl rfl rfl rfl rfl rfl ?_
                refine n_isName7 _ hI  (fun r22 br22 hr22 tr22 ps23_0 => h_Kv ?_)
                refine h_zeq (tg := 92) (pc' := 87) rfl rfl rfl hr22 (fun c24 => ?_) (fun c24 => ?_)
                · refine h_bipush (pc' := 94) (x := (Int32.ofInt (-4))) rfl rfl cb_m4 ?_
                  exact h_iret rfl rfl (kk _ _ ci_m4 (by omega) (Or.inl ⟨rfl, gn_0 ps2_0 (by omega), gn_0 ps5_0 (by omega), gn_0 ps8_0 (by omega), gn_0 ps11_0 (by omega), gn_0 ps14_0 (by omega), gn_0 ps17_0 (by omega), gn_0 ps20_0 (by omega), gn_0 ps23_0 (by omega)⟩))
                · refine h_bipush (pc' := 89) (x := (Int32.ofInt 7)) rfl rfl cb_7 ?_
                  refine h_goto (pc' := 94) rfl rfl ?_
                  exact h_iret rfl rfl (kk _ _ ci_7 (by omega) (Or.inr (Or.inr (Or.inr (Or.inr (Or.inr (Or.inr (Or.inr (Or.inr ⟨rfl, gn_0 ps2_0 (by omega), gn_0 ps5_0 (by omega), gn_0 ps8_0 (by omega), gn_0 ps11_0 (by omega), gn_0 ps14_0 (by omega), gn_0 ps17_0 (by omega), gn_0 ps20_0 (by omega), gn_1 ps23_0 (by omega)⟩)))))))))
              · refine h_bipush (pc' := 77) (x := (Int32.ofInt 6)) rfl rfl cb_6 ?_
                exact h_iret rfl rfl (kk _ _ ci_6 (by omega) (Or.inr (Or.inr (Or.inr (Or.inr (Or.inr (Or.inr (Or.inr (Or.inl ⟨rfl, gn_0 ps2_0 (by omega), gn_0 ps5_0 (by omega), gn_0 ps8_0 (by omega), gn_0 ps11_0 (by omega), gn_0 ps14_0 (by omega), gn_0 ps17_0 (by omega), gn_1 ps20_0 (by omega)⟩)))))))))
            · refine h_iconst (pc' := 65) (x := (Int32.ofInt 5)) rfl rfl rfl ?_
              exact h_iret rfl rfl (kk _ _ ci_5 (by omega) (Or.inr (Or.inr (Or.inr (Or.inr (Or.inr (Or.inr (Or.inl ⟨rfl, gn_0 ps2_0 (by omega), gn_0 ps5_0 (by omega), gn_0 ps8_0 (by omega), gn_0 ps11_0 (by omega), gn_0 ps14_0 (by omega), gn_1 ps17_0 (by omega)⟩))))))))
          · refine h_iconst (pc' := 54) (x := (Int32.ofInt 4)) rfl rfl rfl ?_
            exact h_iret rfl rfl (kk _ _ ci_4 (by omega) (Or.inr (Or.inr (Or.inr (Or.inr (Or.inr (Or.inl ⟨rfl, gn_0 ps2_0 (by omega), gn_0 ps5_0 (by omega), gn_0 ps8_0 (by omega), gn_0 ps11_0 (by omega), gn_1 ps14_0 (by omega)⟩)))))))
        · refine h_iconst (pc' := 43) (x := (Int32.ofInt 3)) rfl rfl rfl ?_
          exact h_iret rfl rfl (kk _ _ ci_3 (by omega) (Or.inr (Or.inr (Or.inr (Or.inr (Or.inl ⟨rfl, gn_0 ps2_0 (by omega), gn_0 ps5_0 (by omega), gn_0 ps8_0 (by omega), gn_1 ps11_0 (by omega)⟩))))))
      · refine h_iconst (pc' := 32) (x := (Int32.ofInt 2)) rfl rfl rfl ?_
        exact h_iret rfl rfl (kk _ _ ci_2 (by omega) (Or.inr (Or.inr (Or.inr (Or.inl ⟨rfl, gn_0 ps2_0 (by omega), gn_0 ps5_0 (by omega), gn_1 ps8_0 (by omega)⟩)))))
    · refine h_iconst (pc' := 21) (x := (Int32.ofInt 1)) rfl rfl rfl ?_
      exact h_iret rfl rfl (kk _ _ ci_1 (by omega) (Or.inr (Or.inr (Or.inl ⟨rfl, gn_0 ps2_0 (by omega), gn_1 ps5_0 (by omega)⟩))))
  · refine h_iconst (pc' := 10) (x := (Int32.ofInt 0)) rfl rfl rfl ?_
    exact h_iret rfl rfl (kk _ _ ci_0 (by omega) (Or.inr (Or.inl ⟨rfl, gn_1 ps2_0 (by omega)⟩)))
