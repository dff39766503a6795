set_option maxHeartbeats 100000000 in
theorem g_case_637 {ns : Nat} (hns : ns ≤ 320) (s0 : h_S) (I0 : h_I s0) (j0 : d_tape s0 s0) (j1 : s0 64 4 = s0 98 16) (j2 : c_R true s0) (j3 : g_ti s0) (j4 : g_SH s0) (j5 : s0 90 2 = s0 98 29) (y3 : Int32) (b3 : Int) (hy3 : y3.toInt = b3) (hr : 0 ≤ b3 ∧ b3 + 5 ≤ ns) {Q : Option Value → h_S → Prop} (kk : ∀ τ, h_I τ → (d_tape τ τ) → (τ 64 4 = τ 98 16) → (c_R true τ) → (g_ti τ) → (g_SH τ) → (τ 90 2 = τ 98 29) → h_T g_P (g_Y ns) 225 1441 [(0, .ref 0), (1, .ref 9), (2, .ref 98), (3, .int y3)] [] τ Q) : h_T g_P (g_Y ns) 225 637 [(0, .ref 0), (1, .ref 9), (2, .ref 98), (3, .int y3)] [] s0 Q := by
  have F0_ : h_F (fun _ _ => true) s0 s0 := h_F.rf
  have j0_ := j0.2
  have i0 := tf_64_1 I0
  have i1 := tf_98_11 I0
  have i2 := tf_64_4 I0
  have i3 := tf_98_16 I0
  have i4 := tf_90_2 I0
  have i5 := tf_98_29 I0
  have i6 := tf_10_8 I0
  have i7 := tf_98_1 I0
  have i8 := tf_10_9 I0
  have i9 := tf_98_2 I0
  have j2_ := j2.sz
  refine h_aload_n (pc' := 638) rfl rfl rfl ?_
  refine h_aload_n (pc' := 639) rfl rfl rfl ?_
  refine h_iload_n (pc' := 640) rfl rfl rfl ?_
  refine h_iconst (pc' := 641) (x := (Int32.ofInt 1)) rfl rfl rfl ?_
  refine h_iadd (pc' := 642) rfl rfl hy3 ci_1 rfl (by omega) (by omega) (fun z1 hz1 => ?_)
  refine h_iald (pc' := 643) (v := s0 0 (b3 + 1)) rfl rfl rfl hz1 (by omega) (by omega) rfl (fun z2 hz2 => ?_)
  have tz2 := h_rgv hz2
  clear hz1
  refine h_aload_n (pc' := 644) rfl rfl rfl ?_
  refine h_iload_n (pc' := 645) rfl rfl rfl ?_
  refine h_iconst (pc' := 646) (x := (Int32.ofInt 2)) rfl rfl rfl ?_
  refine h_iadd (pc' := 647) rfl rfl hy3 ci_2 rfl (by omega) (by omega) (fun z3 hz3 => ?_)
  refine h_iald (pc' := 648) (v := s0 0 (b3 + 2)) rfl rfl rfl hz3 (by omega) (by omega) rfl (fun z4 hz4 => ?_)
  have tz4 := h_rgv hz4
  clear hz3
  refine h_aload_n (pc' := 649) rfl rfl rfl ?_
  refine h_iload_n (pc' := 650) rfl rfl rfl ?_
  refine h_iconst (pc' := 651) (x := (Int32.ofInt 3)) rfl rfl rfl ?_
  refine h_iadd (pc' := 652) rfl rfl hy3 ci_3 rfl (by omega) (by omega) (fun z5 hz5 => ?_)
  refine h_iald (pc' := 653) (v := s0 0 (b3 + 3)) rfl rfl rfl hz5 (by omega) (by omega) rfl (fun z6 hz6 => ?_)
  have tz6 := h_rgv hz6
  clear hz5
  refine h_call (sp := false) (pc' := 656) (M := [(0, .ref 9), (1, .int z2), (2, .int z4), (3, .int z6)]) rfl rfl rfl rfl rfl rfl rfl rfl ?_
  refine h_aload_n (pc' := 1) rfl rfl rfl ?_
  refine h_getR (pc' := 4) rfl rfl rfl rfl rfl ?_
  refine h_iload_n (pc' := 5) rfl rfl rfl ?_
  refine h_call (sp := false) (pc' := 8) (M := [(0, .ref 10), (1, .int z2)]) rfl rfl rfl rfl rfl rfl rfl rfl ?_
  refine h_iload_n (pc' := 1) rfl rfl rfl ?_
  refine h_zlt (tg := 16) (pc' := 4) rfl rfl rfl hz2 (fun c7 => ?_) (fun c7 => ?_)
  · refine h_iconst (pc' := 17) (x := (Int32.ofInt 0)) rfl rfl rfl ?_
    refine h_zret rfl rfl ci_0 (by omega) (h_Kv ?_)
    refine h_zne (tg := 13) (pc' := 11) rfl rfl rfl ci_0 (fun c8 => absurd (Int.le_antisymm (by omega) (by omega)) c8) (fun c8 => ?_)
    refine h_iconst (pc' := 12) (x := (Int32.ofInt (-1))) rfl rfl rfl ?_
    refine h_iret rfl rfl (h_Kv ?_)
    clear hz2 hz4 hz6
    refine h_pop (pc' := 657) rfl rfl rfl ?_
    refine h_aload_n (pc' := 658) rfl rfl rfl ?_
    refine h_aload_n (pc' := 659) rfl rfl rfl ?_
    refine h_iload_n (pc' := 660) rfl rfl rfl ?_
    refine h_iconst (pc' := 661) (x := (Int32.ofInt 1)) rfl rfl rfl ?_
    refine h_iadd (pc' := 662) rfl rfl hy3 ci_1 rfl (by omega) (by omega) (fun z9 hz9 => ?_)
    refine h_iald (pc' := 663) (v := s0 0 (b3 + 1)) rfl rfl rfl hz9 (by omega) (by omega) rfl (fun z10 hz10 => ?_)
    have tz10 := h_rgv hz10
    clear hz9
    refine h_aload_n (pc' := 664) rfl rfl rfl ?_
    refine h_iload_n (pc' := 665) rfl rfl rfl ?_
    refine h_iconst (pc' := 666) (x := (Int32.ofInt 2)) rfl rfl rfl ?_
    refine h_iadd (pc' := 667) rfl rfl hy3 ci_2 rfl (by omega) (by omega) (fun z11 hz11 => ?_)
    refine h_iald (pc' := 668) (v := s0 0 (b3 + 2)) rfl rfl rfl hz11 (by omega) (by omega) rfl (fun z12 hz12 => ?_)
    have tz12 := h_rgv hz12
    clear hz11
    refine h_aload_n (pc' := 669) rfl rfl rfl ?_
    refine h_iload_n (pc' := 670) rfl rfl rfl ?_
    refine h_iconst (pc' := 671) (x := (Int32.ofInt 3)) rfl rfl rfl ?_
    refine h_iadd (pc' := 672) rfl rfl hy3 ci_3 rfl (by omega) (by omega) (fun z13 hz13 => ?_)
    refine h_iald (pc' := 673) (v := s0 0 (b3 + 3)) rfl rfl rfl hz13 (by omega) (by omega) rfl (fun z14 hz14 => ?_)
    have tz14 := h_rgv hz14
    clear hz13
    refine h_call (sp := false) (pc' := 676) (M := [(0, .ref 98), (1, .int z10), (2, .int z12), (3, .int z14)]) rfl rfl rfl rfl rfl rfl rfl rfl ?_
    refine h_iload_n (pc' := 1) rfl rfl rfl ?_
    refine h_iconst (pc' := 2) (x := (Int32.ofInt 1)) rfl rfl rfl ?_
    refine h_cne (tg := 43) (pc' := 5) rfl rfl rfl hz12 ci_1 (fun c15 => ?_) (fun c15 => ?_)
    · refine h_aload_n (pc' := 44) rfl rfl rfl ?_
      refine h_aload_n (pc' := 45) rfl rfl rfl ?_
      refine h_iload_n (pc' := 46) rfl rfl rfl ?_
      refine h_call (sp := false) (pc' := 49) (M := [(0, .ref 98), (1, .int z10)]) rfl rfl rfl rfl rfl rfl rfl rfl ?_
      refine h_iload_n (pc' := 1) rfl rfl rfl ?_
      refine h_i2l (pc' := 2) rfl rfl hz10 (fun z16 hz16 => ?_)
      refine h_lconst (pc' := 3) (x := (Int64.ofInt 0)) rfl rfl rfl ?_
      refine h_aload_n (pc' := 4) rfl rfl rfl ?_
      refine h_getI (pc' := 7) (v := s0 98 2) rfl rfl rfl rfl rfl rfl (fun z17 hz17 => ?_)
      have tz17 := tf_98_2 I0
      refine h_iconst (pc' := 8) (x := (Int32.ofInt 1)) rfl rfl rfl ?_
      refine h_isub (pc' := 9) rfl rfl hz17 ci_1 rfl (by omega) (by omega) (fun z18 hz18 => ?_)
      clear hz17
      refine h_i2l (pc' := 10) rfl rfl hz18 (fun z19 hz19 => ?_)
      clear hz18
      refine h_calls (pc' := 13) (M := [(0, .long z16), (2, .long (Int64.ofInt 0)), (4, .long z19)]) rfl rfl rfl rfl rfl rfl ?_
      refine h_lload_n (pc' := 1) rfl rfl rfl ?_
      refine h_lload_n (pc' := 2) rfl rfl rfl ?_
      refine h_lcmp (pc' := 3) rfl rfl hz16 cl_0 (fun z20 hz20 => ?_)
      refine h_zlt (tg := 17) (pc' := 6) rfl rfl rfl rfl (fun c21 => ?_) (fun c21 => absurd c21 (by omega))
      replace c21 := (h_lcr hz20).1 c21
      clear hz20
      refine h_iconst (pc' := 18) (x := (Int32.ofInt 0)) rfl rfl rfl ?_
      refine h_zret rfl rfl ci_0 (by omega) (h_Kv ?_)
      clear hz16 hz19
      refine h_zret rfl rfl ci_0 (by omega) (h_Kv ?_)
      refine h_zeq (tg := 72) (pc' := 52) rfl rfl rfl ci_0 (fun c22 => ?_) (fun c22 => absurd (Int.le_antisymm (by omega) (by omega)) c22)
      refine h_iconst (pc' := 73) (x := (Int32.ofInt 0)) rfl rfl rfl ?_
      refine h_bipush (pc' := 75) (x := (Int32.ofInt 26)) rfl rfl cb_26 ?_
      refine h_iload_n (pc' := 76) rfl rfl rfl ?_
      refine h_iadd (pc' := 77) rfl rfl ci_26 hz10 rfl (by have g0 := h_rgv hz10; omega) (by have g0 := h_rgv hz10; omega) (fun z23 hz23 => ?_)
      refine h_iload_n (pc' := 78) rfl rfl rfl ?_
      refine h_iconst (pc' := 79) (x := (Int32.ofInt 0)) rfl rfl rfl ?_
      refine h_call (sp := false) (pc' := 82) (M := [(0, .ref 98), (1, .int (Int32.ofInt 0)), (2, .int z23), (3, .int z14), (4, .int (Int32.ofInt 0))]) rfl rfl rfl rfl rfl rfl rfl rfl ?_
      refine h_iload_n (pc' := 1) rfl rfl rfl ?_
      refine h_zne (tg := 6) (pc' := 4) rfl rfl rfl ci_0 (fun c24 => absurd (Int.le_antisymm (by omega) (by omega)) c24) (fun c24 => ?_)
      refine h_iconst (pc' := 5) (x := (Int32.ofInt (-1))) rfl rfl rfl ?_
      refine h_iret rfl rfl (h_Kv ?_)
      clear hz23
      refine h_iret rfl rfl (h_Kv ?_)
      clear hz10 hz12 hz14
      refine h_pop (pc' := 677) rfl rfl rfl ?_
      refine h_goto (pc' := 1441) rfl rfl ?_
      exact kk _ I0 (by first | exact d_tape.le j0 (Int.le_antisymm (by omega) (by omega)) (by omega) (fun j => rfl) (fun j => rfl) | (exfalso; omega)) (Int.le_antisymm (by omega) (by omega)) j2 (g_ti.e j3 rfl) (g_SH.e j4 rfl rfl rfl rfl rfl rfl) (Int.le_antisymm (by omega) (by omega))
    · refine h_aload_n (pc' := 6) rfl rfl rfl ?_
      refine h_aload_n (pc' := 7) rfl rfl rfl ?_
      refine h_iload_n (pc' := 8) rfl rfl rfl ?_
      refine h_call (sp := false) (pc' := 11) (M := [(0, .ref 98), (1, .int z10)]) rfl rfl rfl rfl rfl rfl rfl rfl ?_
      refine h_iload_n (pc' := 1) rfl rfl rfl ?_
      refine h_i2l (pc' := 2) rfl rfl hz10 (fun z25 hz25 => ?_)
      refine h_lconst (pc' := 3) (x := (Int64.ofInt 0)) rfl rfl rfl ?_
      refine h_aload_n (pc' := 4) rfl rfl rfl ?_
      refine h_getI (pc' := 7) (v := s0 98 2) rfl rfl rfl rfl rfl rfl (fun z26 hz26 => ?_)
      have tz26 := tf_98_2 I0
      refine h_iconst (pc' := 8) (x := (Int32.ofInt 1)) rfl rfl rfl ?_
      refine h_isub (pc' := 9) rfl rfl hz26 ci_1 rfl (by omega) (by omega) (fun z27 hz27 => ?_)
      clear hz26
      refine h_i2l (pc' := 10) rfl rfl hz27 (fun z28 hz28 => ?_)
      clear hz27
      refine h_calls (pc' := 13) (M := [(0, .long z25), (2, .long (Int64.ofInt 0)), (4, .long z28)]) rfl rfl rfl rfl rfl rfl ?_
      refine h_lload_n (pc' := 1) rfl rfl rfl ?_
      refine h_lload_n (pc' := 2) rfl rfl rfl ?_
      refine h_lcmp (pc' := 3) rfl rfl hz25 cl_0 (fun z29 hz29 => ?_)
      refine h_zlt (tg := 17) (pc' := 6) rfl rfl rfl rfl (fun c30 => ?_) (fun c30 => absurd c30 (by omega))
      replace c30 := (h_lcr hz29).1 c30
      clear hz29
      refine h_iconst (pc' := 18) (x := (Int32.ofInt 0)) rfl rfl rfl ?_
      refine h_zret rfl rfl ci_0 (by omega) (h_Kv ?_)
      clear hz25 hz28
      refine h_zret rfl rfl ci_0 (by omega) (h_Kv ?_)
      refine h_zeq (tg := 32) (pc' := 14) rfl rfl rfl ci_0 (fun c31 => ?_) (fun c31 => absurd (Int.le_antisymm (by omega) (by omega)) c31)
      refine h_iconst (pc' := 33) (x := (Int32.ofInt 0)) rfl rfl rfl ?_
      refine h_bipush (pc' := 35) (x := (Int32.ofInt 29)) rfl rfl cb_29 ?_
      refine h_iload_n (pc' := 36) rfl rfl rfl ?_
      refine h_iadd (pc' := 37) rfl rfl ci_29 hz10 rfl (by have g0 := h_rgv hz10; omega) (by have g0 := h_rgv hz10; omega) (fun z32 hz32 => ?_)
      refine h_iload_n (pc' := 38) rfl rfl rfl ?_
      refine h_iconst (pc' := 39) (x := (Int32.ofInt 1)) rfl rfl rfl ?_
      refine h_call (sp := false) (pc' := 42) (M := [(0, .ref 98), (1, .int (Int32.ofInt 0)), (2, .int z32), (3, .int z14), (4, .int (Int32.ofInt 1))]) rfl rfl rfl rfl rfl rfl rfl rfl ?_
      refine h_iload_n (pc' := 1) rfl rfl rfl ?_
      refine h_zne (tg := 6) (pc' := 4) rfl rfl rfl ci_0 (fun c33 => absurd (Int.le_antisymm (by omega) (by omega)) c33) (fun c33 => ?_)
      refine h_iconst (pc' := 5) (x := (Int32.ofInt (-1))) rfl rfl rfl ?_
      refine h_iret rfl rfl (h_Kv ?_)
      clear hz32
      refine h_iret rfl rfl (h_Kv ?_)
      clear hz10 hz12 hz14
      refine h_pop (pc' := 677) rfl rfl rfl ?_
      refine h_goto (pc' := 1441) rfl rfl ?_
      exact kk _ I0 (by first | exact d_tape.le j0 (Int.le_antisymm (by omega) (by omega)) (by omega) (fun j => rfl) (fun j => rfl) | (exfalso; omega)) (Int.le_antisymm (by omega) (by omega)) j2 (g_ti.e j3 rfl) (g_SH.e j4 rfl rfl rfl rfl rfl rfl) (Int.le_antisymm (by omega) (by omega))
  · refine h_iload_n (pc' := 5) rfl rfl rfl ?_
    refine h_aload_n (pc' := 6) rfl rfl rfl ?_
    refine h_getI (pc' := 9) (v := s0 10 9) rfl rfl rfl rfl rfl rfl (fun z34 hz34 => ?_)
    have tz34 := tf_10_9 I0
    refine h_cge (tg := 16) (pc' := 12) rfl rfl rfl hz2 hz34 (fun c35 => ?_) (fun c35 => ?_)
    · clear hz34
      refine h_iconst (pc' := 17) (x := (Int32.ofInt 0)) rfl rfl rfl ?_
      refine h_zret rfl rfl ci_0 (by omega) (h_Kv ?_)
      refine h_zne (tg := 13) (pc' := 11) rfl rfl rfl ci_0 (fun c36 => absurd (Int.le_antisymm (by omega) (by omega)) c36) (fun c36 => ?_)
      refine h_iconst (pc' := 12) (x := (Int32.ofInt (-1))) rfl rfl rfl ?_
      refine h_iret rfl rfl (h_Kv ?_)
      clear hz2 hz4 hz6
      refine h_pop (pc' := 657) rfl rfl rfl ?_
      refine h_aload_n (pc' := 658) rfl rfl rfl ?_
      refine h_aload_n (pc' := 659) rfl rfl rfl ?_
      refine h_iload_n (pc' := 660) rfl rfl rfl ?_
      refine h_iconst (pc' := 661) (x := (Int32.ofInt 1)) rfl rfl rfl ?_
      refine h_iadd (pc' := 662) rfl rfl hy3 ci_1 rfl (by omega) (by omega) (fun z37 hz37 => ?_)
      refine h_iald (pc' := 663) (v := s0 0 (b3 + 1)) rfl rfl rfl hz37 (by omega) (by omega) rfl (fun z38 hz38 => ?_)
      have tz38 := h_rgv hz38
      clear hz37
      refine h_aload_n (pc' := 664) rfl rfl rfl ?_
      refine h_iload_n (pc' := 665) rfl rfl rfl ?_
      refine h_iconst (pc' := 666) (x := (Int32.ofInt 2)) rfl rfl rfl ?_
      refine h_iadd (pc' := 667) rfl rfl hy3 ci_2 rfl (by omega) (by omega) (fun z39 hz39 => ?_)
      refine h_iald (pc' := 668) (v := s0 0 (b3 + 2)) rfl rfl rfl hz39 (by omega) (by omega) rfl (fun z40 hz40 => ?_)
      have tz40 := h_rgv hz40
      clear hz39
      refine h_aload_n (pc' := 669) rfl rfl rfl ?_
      refine h_iload_n (pc' := 670) rfl rfl rfl ?_
      refine h_iconst (pc' := 671) (x := (Int32.ofInt 3)) rfl rfl rfl ?_
      refine h_iadd (pc' := 672) rfl rfl hy3 ci_3 rfl (by omega) (by omega) (fun z41 hz41 => ?_)
      refine h_iald (pc' := 673) (v := s0 0 (b3 + 3)) rfl rfl rfl hz41 (by omega) (by omega) rfl (fun z42 hz42 => ?_)
      have tz42 := h_rgv hz42
      clear hz41
      refine h_call (sp := false) (pc' := 676) (M := [(0, .ref 98), (1, .int z38), (2, .int z40), (3, .int z42)]) rfl rfl rfl rfl rfl rfl rfl rfl ?_
      refine h_iload_n (pc' := 1) rfl rfl rfl ?_
      refine h_iconst (pc' := 2) (x := (Int32.ofInt 1)) rfl rfl rfl ?_
      refine h_cne (tg := 43) (pc' := 5) rfl rfl rfl hz40 ci_1 (fun c43 => ?_) (fun c43 => ?_)
      · refine h_aload_n (pc' := 44) rfl rfl rfl ?_
        refine h_aload_n (pc' := 45) rfl rfl rfl ?_
        refine h_iload_n (pc' := 46) rfl rfl rfl ?_
        refine h_call (sp := false) (pc' := 49) (M := [(0, .ref 98), (1, .int z38)]) rfl rfl rfl rfl rfl rfl rfl rfl ?_
        refine h_iload_n (pc' := 1) rfl rfl rfl ?_
        refine h_i2l (pc' := 2) rfl rfl hz38 (fun z44 hz44 => ?_)
        refine h_lconst (pc' := 3) (x := (Int64.ofInt 0)) rfl rfl rfl ?_
        refine h_aload_n (pc' := 4) rfl rfl rfl ?_
        refine h_getI (pc' := 7) (v := s0 98 2) rfl rfl rfl rfl rfl rfl (fun z45 hz45 => ?_)
        have tz45 := tf_98_2 I0
        refine h_iconst (pc' := 8) (x := (Int32.ofInt 1)) rfl rfl rfl ?_
        refine h_isub (pc' := 9) rfl rfl hz45 ci_1 rfl (by omega) (by omega) (fun z46 hz46 => ?_)
        clear hz45
        refine h_i2l (pc' := 10) rfl rfl hz46 (fun z47 hz47 => ?_)
        clear hz46
        refine h_calls (pc' := 13) (M := [(0, .long z44), (2, .long (Int64.ofInt 0)), (4, .long z47)]) rfl rfl rfl rfl rfl rfl ?_
        refine h_lload_n (pc' := 1) rfl rfl rfl ?_
        refine h_lload_n (pc' := 2) rfl rfl rfl ?_
        refine h_lcmp (pc' := 3) rfl rfl hz44 cl_0 (fun z48 hz48 => ?_)
        refine h_zlt (tg := 17) (pc' := 6) rfl rfl rfl rfl (fun c49 => absurd c49 (by omega)) (fun c49 => ?_)
        replace c49 := (h_lcr hz48).2.1 c49
        clear hz48
        refine h_lload_n (pc' := 7) rfl rfl rfl ?_
        refine h_lload (pc' := 9) rfl rfl rfl ?_
        refine h_lcmp (pc' := 10) rfl rfl hz44 hz47 (fun z50 hz50 => ?_)
        refine h_zgt (tg := 17) (pc' := 13) rfl rfl rfl rfl (fun c51 => ?_) (fun c51 => absurd c51 (by omega))
        replace c51 := (h_lcr hz50).2.2.2.1 c51
        clear hz50
        refine h_iconst (pc' := 18) (x := (Int32.ofInt 0)) rfl rfl rfl ?_
        refine h_zret rfl rfl ci_0 (by omega) (h_Kv ?_)
        clear hz44 hz47
        refine h_zret rfl rfl ci_0 (by omega) (h_Kv ?_)
        refine h_zeq (tg := 72) (pc' := 52) rfl rfl rfl ci_0 (fun c52 => ?_) (fun c52 => absurd (Int.le_antisymm (by omega) (by omega)) c52)
        refine h_iconst (pc' := 73) (x := (Int32.ofInt 0)) rfl rfl rfl ?_
        refine h_bipush (pc' := 75) (x := (Int32.ofInt 26)) rfl rfl cb_26 ?_
        refine h_iload_n (pc' := 76) rfl rfl rfl ?_
        refine h_iaddA (pc' := 77) rfl rfl (fun z53 hz53 => ?_)
        refine h_iload_n (pc' := 78) rfl rfl rfl ?_
        refine h_iconst (pc' := 79) (x := (Int32.ofInt 0)) rfl rfl rfl ?_
        refine h_call (sp := false) (pc' := 82) (M := [(0, .ref 98), (1, .int (Int32.ofInt 0)), (2, .int z53), (3, .int z42), (4, .int (Int32.ofInt 0))]) rfl rfl rfl rfl rfl rfl rfl rfl ?_
        refine h_iload_n (pc' := 1) rfl rfl rfl ?_
        refine h_zne (tg := 6) (pc' := 4) rfl rfl rfl ci_0 (fun c54 => absurd (Int.le_antisymm (by omega) (by omega)) c54) (fun c54 => ?_)
        refine h_iconst (pc' := 5) (x := (Int32.ofInt (-1))) rfl rfl rfl ?_
        refine h_iret rfl rfl (h_Kv ?_)
        refine h_iret rfl rfl (h_Kv ?_)
        clear hz38 hz40 hz42
        refine h_pop (pc' := 677) rfl rfl rfl ?_
        refine h_goto (pc' := 1441) rfl rfl ?_
        exact kk _ I0 (by first | exact d_tape.le j0 (Int.le_antisymm (by omega) (by omega)) (by omega) (fun j => rfl) (fun j => rfl) | (exfalso; omega)) (Int.le_antisymm (by omega) (by omega)) j2 (g_ti.e j3 rfl) (g_SH.e j4 rfl rfl rfl rfl rfl rfl) (Int.le_antisymm (by omega) (by omega))
      · refine h_aload_n (pc' := 6) rfl rfl rfl ?_
        refine h_aload_n (pc' := 7) rfl rfl rfl ?_
        refine h_iload_n (pc' := 8) rfl rfl rfl ?_
        refine h_call (sp := false) (pc' := 11) (M := [(0, .ref 98), (1, .int z38)]) rfl rfl rfl rfl rfl rfl rfl rfl ?_
        refine h_iload_n (pc' := 1) rfl rfl rfl ?_
        refine h_i2l (pc' := 2) rfl rfl hz38 (fun z55 hz55 => ?_)
        refine h_lconst (pc' := 3) (x := (Int64.ofInt 0)) rfl rfl rfl ?_
        refine h_aload_n (pc' := 4) rfl rfl rfl ?_
        refine h_getI (pc' := 7) (v := s0 98 2) rfl rfl rfl rfl rfl rfl (fun z56 hz56 => ?_)
        have tz56 := tf_98_2 I0
        refine h_iconst (pc' := 8) (x := (Int32.ofInt 1)) rfl rfl rfl ?_
        refine h_isub (pc' := 9) rfl rfl hz56 ci_1 rfl (by omega) (by omega) (fun z57 hz57 => ?_)
        clear hz56
        refine h_i2l (pc' := 10) rfl rfl hz57 (fun z58 hz58 => ?_)
        clear hz57
        refine h_calls (pc' := 13) (M := [(0, .long z55), (2, .long (Int64.ofInt 0)), (4, .long z58)]) rfl rfl rfl rfl rfl rfl ?_
        refine h_lload_n (pc' := 1) rfl rfl rfl ?_
        refine h_lload_n (pc' := 2) rfl rfl rfl ?_
        refine h_lcmp (pc' := 3) rfl rfl hz55 cl_0 (fun z59 hz59 => ?_)
        refine h_zlt (tg := 17) (pc' := 6) rfl rfl rfl rfl (fun c60 => absurd c60 (by omega)) (fun c60 => ?_)
        replace c60 := (h_lcr hz59).2.1 c60
        clear hz59
        refine h_lload_n (pc' := 7) rfl rfl rfl ?_
        refine h_lload (pc' := 9) rfl rfl rfl ?_
        refine h_lcmp (pc' := 10) rfl rfl hz55 hz58 (fun z61 hz61 => ?_)
        refine h_zgt (tg := 17) (pc' := 13) rfl rfl rfl rfl (fun c62 => ?_) (fun c62 => absurd c62 (by omega))
        replace c62 := (h_lcr hz61).2.2.2.1 c62
        clear hz61
        refine h_iconst (pc' := 18) (x := (Int32.ofInt 0)) rfl rfl rfl ?_
        refine h_zret rfl rfl ci_0 (by omega) (h_Kv ?_)
        clear hz55 hz58
        refine h_zret rfl rfl ci_0 (by omega) (h_Kv ?_)
        refine h_zeq (tg := 32) (pc' := 14) rfl rfl rfl ci_0 (fun c63 => ?_) (fun c63 => absurd (Int.le_antisymm (by omega) (by omega)) c63)
        refine h_iconst (pc' := 33) (x := (Int32.ofInt 0)) rfl rfl rfl ?_
        refine h_bipush (pc' := 35) (x := (Int32.ofInt 29)) rfl rfl cb_29 ?_
        refine h_iload_n (pc' := 36) rfl rfl rfl ?_
        refine h_iaddA (pc' := 37) rfl rfl (fun z64 hz64 => ?_)
        refine h_iload_n (pc' := 38) rfl rfl rfl ?_
        refine h_iconst (pc' := 39) (x := (Int32.ofInt 1)) rfl rfl rfl ?_
        refine h_call (sp := false) (pc' := 42) (M := [(0, .ref 98), (1, .int (Int32.ofInt 0)), (2, .int z64), (3, .int z42), (4, .int (Int32.ofInt 1))]) rfl rfl rfl rfl rfl rfl rfl rfl ?_
        refine h_iload_n (pc' := 1) rfl rfl rfl ?_
        refine h_zne (tg := 6) (pc' := 4) rfl rfl rfl ci_0 (fun c65 => absurd (Int.le_antisymm (by omega) (by omega)) c65) (fun c65 => ?_)
        refine h_iconst (pc' := 5) (x := (Int32.ofInt (-1))) rfl rfl rfl ?_
        refine h_iret rfl rfl (h_Kv ?_)
        refine h_iret rfl rfl (h_Kv ?_)
        clear hz38 hz40 hz42
        refine h_pop (pc' := 677) rfl rfl rfl ?_
        refine h_goto (pc' := 1441) rfl rfl ?_
        exact kk _ I0 (by first | exact d_tape.le j0 (Int.le_antisymm (by omega) (by omega)) (by omega) (fun j => rfl) (fun j => rfl) | (exfalso; omega)) (Int.le_antisymm (by omega) (by omega)) j2 (g_ti.e j3 rfl) (g_SH.e j4 rfl rfl rfl rfl rfl rfl) (Int.le_antisymm (by omega) (by omega))
    · clear hz34
      refine h_iconst (pc' := 13) (x := (Int32.ofInt 1)) rfl rfl rfl ?_
      refine h_goto (pc' := 17) rfl rfl ?_
      refine h_zret rfl rfl ci_1 (by omega) (h_Kv ?_)
      refine h_zne (tg := 13) (pc' := 11) rfl rfl rfl ci_1 (fun c66 => ?_) (fun c66 => absurd c66 (by omega))
      refine h_iload_n (pc' := 14) rfl rfl rfl ?_
      refine h_zne (tg := 51) (pc' := 17) rfl rfl rfl hz4 (fun c67 => ?_) (fun c67 => ?_)
      · refine h_iload_n (pc' := 52) rfl rfl rfl ?_
        refine h_iconst (pc' := 53) (x := (Int32.ofInt 1)) rfl rfl rfl ?_
        refine h_cne (tg := 97) (pc' := 56) rfl rfl rfl hz4 ci_1 (fun c68 => ?_) (fun c68 => ?_)
        · refine h_iconst (pc' := 98) (x := (Int32.ofInt (-1))) rfl rfl rfl ?_
          refine h_iret rfl rfl (h_Kv ?_)
          clear hz2 hz4 hz6
          refine h_pop (pc' := 657) rfl rfl rfl ?_
          refine h_aload_n (pc' := 658) rfl rfl rfl ?_
          refine h_aload_n (pc' := 659) rfl rfl rfl ?_
          refine h_iload_n (pc' := 660) rfl rfl rfl ?_
          refine h_iconst (pc' := 661) (x := (Int32.ofInt 1)) rfl rfl rfl ?_
          refine h_iadd (pc' := 662) rfl rfl hy3 ci_1 rfl (by omega) (by omega) (fun z69 hz69 => ?_)
          refine h_iald (pc' := 663) (v := s0 0 (b3 + 1)) rfl rfl rfl hz69 (by omega) (by omega) rfl (fun z70 hz70 => ?_)
          have tz70 := h_rgv hz70
          clear hz69
          refine h_aload_n (pc' := 664) rfl rfl rfl ?_
          refine h_iload_n (pc' := 665) rfl rfl rfl ?_
          refine h_iconst (pc' := 666) (x := (Int32.ofInt 2)) rfl rfl rfl ?_
          refine h_iadd (pc' := 667) rfl rfl hy3 ci_2 rfl (by omega) (by omega) (fun z71 hz71 => ?_)
          refine h_iald (pc' := 668) (v := s0 0 (b3 + 2)) rfl rfl rfl hz71 (by omega) (by omega) rfl (fun z72 hz72 => ?_)
          have tz72 := h_rgv hz72
          clear hz71
          refine h_aload_n (pc' := 669) rfl rfl rfl ?_
          refine h_iload_n (pc' := 670) rfl rfl rfl ?_
          refine h_iconst (pc' := 671) (x := (Int32.ofInt 3)) rfl rfl rfl ?_
          refine h_iadd (pc' := 672) rfl rfl hy3 ci_3 rfl (by omega) (by omega) (fun z73 hz73 => ?_)
          refine h_iald (pc' := 673) (v := s0 0 (b3 + 3)) rfl rfl rfl hz73 (by omega) (by omega) rfl (fun z74 hz74 => ?_)
          have tz74 := h_rgv hz74
          clear hz73
          refine h_call (sp := false) (pc' := 676) (M := [(0, .ref 98), (1, .int z70), (2, .int z72), (3, .int z74)]) rfl rfl rfl rfl rfl rfl rfl rfl ?_
          refine h_iload_n (pc' := 1) rfl rfl rfl ?_
          refine h_iconst (pc' := 2) (x := (Int32.ofInt 1)) rfl rfl rfl ?_
          refine h_cne (tg := 43) (pc' := 5) rfl rfl rfl hz72 ci_1 (fun c75 => ?_) (fun c75 => absurd c75 (by omega))
          refine h_aload_n (pc' := 44) rfl rfl rfl ?_
          refine h_aload_n (pc' := 45) rfl rfl rfl ?_
          refine h_iload_n (pc' := 46) rfl rfl rfl ?_
          refine h_call (sp := false) (pc' := 49) (M := [(0, .ref 98), (1, .int z70)]) rfl rfl rfl rfl rfl rfl rfl rfl ?_
          refine h_iload_n (pc' := 1) rfl rfl rfl ?_
          refine h_i2l (pc' := 2) rfl rfl hz70 (fun z76 hz76 => ?_)
          refine h_lconst (pc' := 3) (x := (Int64.ofInt 0)) rfl rfl rfl ?_
          refine h_aload_n (pc' := 4) rfl rfl rfl ?_
          refine h_getI (pc' := 7) (v := s0 98 2) rfl rfl rfl rfl rfl rfl (fun z77 hz77 => ?_)
          have tz77 := tf_98_2 I0
          refine h_iconst (pc' := 8) (x := (Int32.ofInt 1)) rfl rfl rfl ?_
          refine h_isub (pc' := 9) rfl rfl hz77 ci_1 rfl (by omega) (by omega) (fun z78 hz78 => ?_)
          clear hz77
          refine h_i2l (pc' := 10) rfl rfl hz78 (fun z79 hz79 => ?_)
          clear hz78
          refine h_calls (pc' := 13) (M := [(0, .long z76), (2, .long (Int64.ofInt 0)), (4, .long z79)]) rfl rfl rfl rfl rfl rfl ?_
          refine h_lload_n (pc' := 1) rfl rfl rfl ?_
          refine h_lload_n (pc' := 2) rfl rfl rfl ?_
          refine h_lcmp (pc' := 3) rfl rfl hz76 cl_0 (fun z80 hz80 => ?_)
          refine h_zlt (tg := 17) (pc' := 6) rfl rfl rfl rfl (fun c81 => absurd c81 (by omega)) (fun c81 => ?_)
          replace c81 := (h_lcr hz80).2.1 c81
          clear hz80
          refine h_lload_n (pc' := 7) rfl rfl rfl ?_
          refine h_lload (pc' := 9) rfl rfl rfl ?_
          refine h_lcmp (pc' := 10) rfl rfl hz76 hz79 (fun z82 hz82 => ?_)
          refine h_zgt (tg := 17) (pc' := 13) rfl rfl rfl rfl (fun c83 => absurd c83 (by omega)) (fun c83 => ?_)
          replace c83 := (h_lcr hz82).2.2.1 c83
          clear hz82
          refine h_iconst (pc' := 14) (x := (Int32.ofInt 1)) rfl rfl rfl ?_
          refine h_goto (pc' := 18) rfl rfl ?_
          refine h_zret rfl rfl ci_1 (by omega) (h_Kv ?_)
          clear hz76 hz79
          refine h_zret rfl rfl ci_1 (by omega) (h_Kv ?_)
          refine h_zeq (tg := 72) (pc' := 52) rfl rfl rfl ci_1 (fun c84 => absurd c84 (by omega)) (fun c84 => ?_)
          refine h_iload_n (pc' := 53) rfl rfl rfl ?_
          refine h_zne (tg := 72) (pc' := 56) rfl rfl rfl hz72 (fun c85 => ?_) (fun c85 => absurd c85 (by omega))
          refine h_iconst (pc' := 73) (x := (Int32.ofInt 0)) rfl rfl rfl ?_
          refine h_bipush (pc' := 75) (x := (Int32.ofInt 26)) rfl rfl cb_26 ?_
          refine h_iload_n (pc' := 76) rfl rfl rfl ?_
          refine h_iadd (pc' := 77) rfl rfl ci_26 hz70 rfl (by have g0 := h_rgv hz70; omega) (by have g0 := h_rgv hz70; omega) (fun z86 hz86 => ?_)
          refine h_iload_n (pc' := 78) rfl rfl rfl ?_
          refine h_iconst (pc' := 79) (x := (Int32.ofInt 0)) rfl rfl rfl ?_
          refine h_call (sp := false) (pc' := 82) (M := [(0, .ref 98), (1, .int (Int32.ofInt 0)), (2, .int z86), (3, .int z74), (4, .int (Int32.ofInt 0))]) rfl rfl rfl rfl rfl rfl rfl rfl ?_
          refine h_iload_n (pc' := 1) rfl rfl rfl ?_
          refine h_zne (tg := 6) (pc' := 4) rfl rfl rfl ci_0 (fun c87 => absurd (Int.le_antisymm (by omega) (by omega)) c87) (fun c87 => ?_)
          refine h_iconst (pc' := 5) (x := (Int32.ofInt (-1))) rfl rfl rfl ?_
          refine h_iret rfl rfl (h_Kv ?_)
          clear hz86
          refine h_iret rfl rfl (h_Kv ?_)
          clear hz70 hz72 hz74
          refine h_pop (pc' := 677) rfl rfl rfl ?_
          refine h_goto (pc' := 1441) rfl rfl ?_
          exact kk _ I0 (by first | exact d_tape.le j0 (Int.le_antisymm (by omega) (by omega)) (by omega) (fun j => rfl) (fun j => rfl) | (exfalso; omega)) (Int.le_antisymm (by omega) (by omega)) j2 (g_ti.e j3 rfl) (g_SH.e j4 rfl rfl rfl rfl rfl rfl) (Int.le_antisymm (by omega) (by omega))
        · refine h_iload_n (pc' := 57) rfl rfl rfl ?_
          refine h_bipush (pc' := 59) (x := (Int32.ofInt (-4))) rfl rfl cb_m4 ?_
          refine h_ceq (tg := 73) (pc' := 62) rfl rfl rfl hz6 ci_m4 (fun c88 => ?_) (fun c88 => ?_)
          · refine h_aload_n (pc' := 74) rfl rfl rfl ?_
            refine h_getR (pc' := 77) rfl rfl rfl rfl rfl ?_
            refine h_getR (pc' := 80) rfl rfl rfl rfl rfl ?_
            refine h_iload_n (pc' := 81) rfl rfl rfl ?_
            refine h_iald (pc' := 82) (v := s0 20 (s0 0 (b3 + 1))) rfl rfl rfl hz2 (by omega) (by omega) rfl (fun z89 hz89 => ?_)
            have tz89 := ty_20 I0 (s0 0 (b3 + 1))
            refine h_istore (pc' := 84) (M := [(4, .int z89), (0, .ref 9), (1, .int z2), (2, .int z4), (3, .int z6)]) rfl rfl rfl rfl ?_
            refine h_aload_n (pc' := 85) rfl rfl rfl ?_
            refine h_getR (pc' := 88) rfl rfl rfl rfl rfl ?_
            refine h_getR (pc' := 91) rfl rfl rfl rfl rfl ?_
            refine h_iload_n (pc' := 92) rfl rfl rfl ?_
            refine h_iload_n (pc' := 93) rfl rfl rfl ?_
            refine h_iast (pc' := 94) rfl rfl rfl rfl hz2 (by omega) (by omega) hz6 (h_fgt (E := fun s => s 64 1 = s0 64 1 ∧ s 98 11 = s0 98 11 ∧ s 64 4 = s0 64 4 ∧ s 98 16 = s0 98 16 ∧ s 90 2 = s0 90 2 ∧ s 98 29 = s0 98 29 ∧ s 10 8 = s0 10 8 ∧ s 98 1 = s0 98 1 ∧ s 10 9 = s0 10 9 ∧ s 98 2 = s0 98 2 ∧ s = h_up s0 20 (s0 0 (b3 + 1)) (s0 0 (b3 + 3))) _ (in_20 I0 (by omega)) (F0_.up rfl) ⟨rfl, rfl, rfl, rfl, rfl, rfl, rfl, rfl, rfl, rfl, rfl⟩ (fun s90 Is90 Fs90 (es90 : s90 64 1 = s0 64 1 ∧ s90 98 11 = s0 98 11 ∧ s90 64 4 = s0 64 4 ∧ s90 98 16 = s0 98 16 ∧ s90 90 2 = s0 90 2 ∧ s90 98 29 = s0 98 29 ∧ s90 10 8 = s0 10 8 ∧ s90 98 1 = s0 98 1 ∧ s90 10 9 = s0 10 9 ∧ s90 98 2 = s0 98 2 ∧ s90 = h_up s0 20 (s0 0 (b3 + 1)) (s0 0 (b3 + 3))) => ?_))
            have us90 := es90.2.2.2.2.2.2.2.2.2.2
            have Zs90 : ∀ i, s90 0 i = s0 0 i := fun i => (h_upo us90 rfl i).trans rfl
            refine h_iload (pc' := 96) rfl rfl rfl ?_
            refine h_iret rfl rfl (h_Kv ?_)
            clear hz2 hz4 hz6
            refine h_pop (pc' := 657) rfl rfl rfl ?_
            clear hz89
            refine h_aload_n (pc' := 658) rfl rfl rfl ?_
            refine h_aload_n (pc' := 659) rfl rfl rfl ?_
            refine h_iload_n (pc' := 660) rfl rfl rfl ?_
            refine h_iconst (pc' := 661) (x := (Int32.ofInt 1)) rfl rfl rfl ?_
            refine h_iadd (pc' := 662) rfl rfl hy3 ci_1 rfl (by omega) (by omega) (fun z91 hz91 => ?_)
            refine h_iald (pc' := 663) (v := s0 0 (b3 + 1)) rfl rfl rfl hz91 (by omega) (by omega) (Zs90 _) (fun z92 hz92 => ?_)
            have tz92 := h_rgv hz92
            clear hz91
            refine h_aload_n (pc' := 664) rfl rfl rfl ?_
            refine h_iload_n (pc' := 665) rfl rfl rfl ?_
            refine h_iconst (pc' := 666) (x := (Int32.ofInt 2)) rfl rfl rfl ?_
            refine h_iadd (pc' := 667) rfl rfl hy3 ci_2 rfl (by omega) (by omega) (fun z93 hz93 => ?_)
            refine h_iald (pc' := 668) (v := s0 0 (b3 + 2)) rfl rfl rfl hz93 (by omega) (by omega) (Zs90 _) (fun z94 hz94 => ?_)
            have tz94 := h_rgv hz94
            clear hz93
            refine h_aload_n (pc' := 669) rfl rfl rfl ?_
            refine h_iload_n (pc' := 670) rfl rfl rfl ?_
            refine h_iconst (pc' := 671) (x := (Int32.ofInt 3)) rfl rfl rfl ?_
            refine h_iadd (pc' := 672) rfl rfl hy3 ci_3 rfl (by omega) (by omega) (fun z95 hz95 => ?_)
            refine h_iald (pc' := 673) (v := s0 0 (b3 + 3)) rfl rfl rfl hz95 (by omega) (by omega) (Zs90 _) (fun z96 hz96 => ?_)
            have tz96 := h_rgv hz96
            clear hz95
            refine h_call (sp := false) (pc' := 676) (M := [(0, .ref 98), (1, .int z92), (2, .int z94), (3, .int z96)]) rfl rfl rfl rfl rfl rfl rfl rfl ?_
            refine h_iload_n (pc' := 1) rfl rfl rfl ?_
            refine h_iconst (pc' := 2) (x := (Int32.ofInt 1)) rfl rfl rfl ?_
            refine h_cne (tg := 43) (pc' := 5) rfl rfl rfl hz94 ci_1 (fun c97 => absurd (Int.le_antisymm (by omega) (by omega)) c97) (fun c97 => ?_)
            refine h_aload_n (pc' := 6) rfl rfl rfl ?_
            refine h_aload_n (pc' := 7) rfl rfl rfl ?_
            refine h_iload_n (pc' := 8) rfl rfl rfl ?_
            refine h_call (sp := false) (pc' := 11) (M := [(0, .ref 98), (1, .int z92)]) rfl rfl rfl rfl rfl rfl rfl rfl ?_
            refine h_iload_n (pc' := 1) rfl rfl rfl ?_
            refine h_i2l (pc' := 2) rfl rfl hz92 (fun z98 hz98 => ?_)
            refine h_lconst (pc' := 3) (x := (Int64.ofInt 0)) rfl rfl rfl ?_
            refine h_aload_n (pc' := 4) rfl rfl rfl ?_
            refine h_getI (pc' := 7) (v := s0 98 2) rfl rfl rfl rfl rfl es90.2.2.2.2.2.2.2.2.2.1 (fun z99 hz99 => ?_)
            have tz99 := tf_98_2 I0
            refine h_iconst (pc' := 8) (x := (Int32.ofInt 1)) rfl rfl rfl ?_
            refine h_isub (pc' := 9) rfl rfl hz99 ci_1 rfl (by omega) (by omega) (fun z100 hz100 => ?_)
            clear hz99
            refine h_i2l (pc' := 10) rfl rfl hz100 (fun z101 hz101 => ?_)
            clear hz100
            refine h_calls (pc' := 13) (M := [(0, .long z98), (2, .long (Int64.ofInt 0)), (4, .long z101)]) rfl rfl rfl rfl rfl rfl ?_
            refine h_lload_n (pc' := 1) rfl rfl rfl ?_
            refine h_lload_n (pc' := 2) rfl rfl rfl ?_
            refine h_lcmp (pc' := 3) rfl rfl hz98 cl_0 (fun z102 hz102 => ?_)
            refine h_zlt (tg := 17) (pc' := 6) rfl rfl rfl rfl (fun c103 => absurd c103 (by omega)) (fun c103 => ?_)
            replace c103 := (h_lcr hz102).2.1 c103
            clear hz102
            refine h_lload_n (pc' := 7) rfl rfl rfl ?_
            refine h_lload (pc' := 9) rfl rfl rfl ?_
            refine h_lcmp (pc' := 10) rfl rfl hz98 hz101 (fun z104 hz104 => ?_)
            refine h_zgt (tg := 17) (pc' := 13) rfl rfl rfl rfl (fun c105 => absurd c105 (by omega)) (fun c105 => ?_)
            replace c105 := (h_lcr hz104).2.2.1 c105
            clear hz104
            refine h_iconst (pc' := 14) (x := (Int32.ofInt 1)) rfl rfl rfl ?_
            refine h_goto (pc' := 18) rfl rfl ?_
            refine h_zret rfl rfl ci_1 (by omega) (h_Kv ?_)
            clear hz101 hz98
            refine h_zret rfl rfl ci_1 (by omega) (h_Kv ?_)
            refine h_zeq (tg := 32) (pc' := 14) rfl rfl rfl ci_1 (fun c106 => absurd c106 (by omega)) (fun c106 => ?_)
            refine h_iload_n (pc' := 15) rfl rfl rfl ?_
            refine h_bipush (pc' := 17) (x := (Int32.ofInt (-4))) rfl rfl cb_m4 ?_
            refine h_ceq (tg := 28) (pc' := 20) rfl rfl rfl hz96 ci_m4 (fun c107 => ?_) (fun c107 => absurd (Int.le_antisymm (by omega) (by omega)) c107)
            refine h_iconst (pc' := 29) (x := (Int32.ofInt 1)) rfl rfl rfl ?_
            refine h_goto (pc' := 33) rfl rfl ?_
            refine h_bipush (pc' := 35) (x := (Int32.ofInt 29)) rfl rfl cb_29 ?_
            refine h_iload_n (pc' := 36) rfl rfl rfl ?_
            refine h_iadd (pc' := 37) rfl rfl ci_29 hz92 rfl (by have g0 := h_rgv hz92; omega) (by have g0 := h_rgv hz92; omega) (fun z108 hz108 => ?_)
            refine h_iload_n (pc' := 38) rfl rfl rfl ?_
            refine h_iconst (pc' := 39) (x := (Int32.ofInt 1)) rfl rfl rfl ?_
            refine h_call (sp := false) (pc' := 42) (M := [(0, .ref 98), (1, .int (Int32.ofInt 1)), (2, .int z108), (3, .int z96), (4, .int (Int32.ofInt 1))]) rfl rfl rfl rfl rfl rfl rfl rfl ?_
            refine h_iload_n (pc' := 1) rfl rfl rfl ?_
            refine h_zne (tg := 6) (pc' := 4) rfl rfl rfl ci_1 (fun c109 => ?_) (fun c109 => absurd c109 (by omega))
            refine h_iload (pc' := 8) rfl rfl rfl ?_
            refine h_zne (tg := 20) (pc' := 11) rfl rfl rfl ci_1 (fun c110 => ?_) (fun c110 => absurd c110 (by omega))
            refine h_aload_n (pc' := 21) rfl rfl rfl ?_
            refine h_getR (pc' := 24) rfl rfl rfl rfl rfl ?_
            refine h_iload_n (pc' := 25) rfl rfl rfl ?_
            refine h_iald (pc' := 26) (v := s90 99 (29 + (s0 0 (b3 + 1)))) rfl rfl rfl hz108 (by omega) (by omega) rfl (fun z111 hz111 => ?_)
            have tz111 := ty_99_7 Is90 (29 + (s0 0 (b3 + 1))) (by omega)
            refine h_calls (pc' := 29) (M := [(0, .int z111)]) rfl rfl rfl rfl rfl rfl ?_
            refine h_iload_n (pc' := 1) rfl rfl rfl ?_
            refine h_zne (tg := 9) (pc' := 4) rfl rfl rfl hz111 (fun c112 => ?_) (fun c112 => ?_)
            · refine h_iload_n (pc' := 10) rfl rfl rfl ?_
              refine h_iconst (pc' := 11) (x := (Int32.ofInt 1)) rfl rfl rfl ?_
              refine h_isub (pc' := 12) rfl rfl hz111 ci_1 rfl (by omega) (by omega) (fun z113 hz113 => ?_)
              refine h_iret rfl rfl (h_Kv ?_)
              clear hz111
              refine h_istore (pc' := 31) (M := [(5, .int z113), (0, .ref 98), (1, .int (Int32.ofInt 1)), (2, .int z108), (3, .int z96), (4, .int (Int32.ofInt 1))]) rfl rfl rfl rfl ?_
              refine h_aload_n (pc' := 32) rfl rfl rfl ?_
              refine h_getR (pc' := 35) rfl rfl rfl rfl rfl ?_
              refine h_iload_n (pc' := 36) rfl rfl rfl ?_
              refine h_iload (pc' := 38) rfl rfl rfl ?_
              refine h_zne (tg := 45) (pc' := 41) rfl rfl rfl ci_1 (fun c114 => ?_) (fun c114 => absurd c114 (by omega))
              refine h_iload_n (pc' := 46) rfl rfl rfl ?_
              refine h_bipush (pc' := 48) (x := (Int32.ofInt (-4))) rfl rfl cb_m4 ?_
              refine h_cne (tg := 55) (pc' := 51) rfl rfl rfl hz96 ci_m4 (fun c115 => absurd (Int.le_antisymm (by omega) (by omega)) c115) (fun c115 => ?_)
              refine h_iconst (pc' := 52) (x := (Int32.ofInt 0)) rfl rfl rfl ?_
              refine h_goto (pc' := 58) rfl rfl ?_
              refine h_iast (pc' := 59) rfl rfl rfl rfl hz108 (by omega) (by omega) ci_0 (h_fgt (E := fun s => s 64 1 = s0 64 1 ∧ s 98 11 = s0 98 11 ∧ s 64 4 = s0 64 4 ∧ s 98 16 = s0 98 16 ∧ s 90 2 = s0 90 2 ∧ s 98 29 = s0 98 29 ∧ s 10 8 = s0 10 8 ∧ s 98 1 = s0 98 1 ∧ s 10 9 = s0 10 9 ∧ s 98 2 = s0 98 2 ∧ s = h_up s90 99 (29 + (s0 0 (b3 + 1))) 0) _ (ip_99_7 Is90 (by omega) (by omega)) (Fs90.up rfl) ⟨es90.1, es90.2.1, es90.2.2.1, es90.2.2.2.1, es90.2.2.2.2.1, es90.2.2.2.2.2.1, es90.2.2.2.2.2.2.1, es90.2.2.2.2.2.2.2.1, es90.2.2.2.2.2.2.2.2.1, es90.2.2.2.2.2.2.2.2.2.1, rfl⟩ (fun s116 Is116 Fs116 (es116 : s116 64 1 = s0 64 1 ∧ s116 98 11 = s0 98 11 ∧ s116 64 4 = s0 64 4 ∧ s116 98 16 = s0 98 16 ∧ s116 90 2 = s0 90 2 ∧ s116 98 29 = s0 98 29 ∧ s116 10 8 = s0 10 8 ∧ s116 98 1 = s0 98 1 ∧ s116 10 9 = s0 10 9 ∧ s116 98 2 = s0 98 2 ∧ s116 = h_up s90 99 (29 + (s0 0 (b3 + 1))) 0) => ?_))
              clear es90
              have us116 := es116.2.2.2.2.2.2.2.2.2.2
              have Zs116 : ∀ i, s116 0 i = s0 0 i := fun i => (h_upo us116 rfl i).trans (Zs90 i)
              refine h_iload (pc' := 61) rfl rfl rfl ?_
              refine h_iret rfl rfl (h_Kv ?_)
              clear hz108
              refine h_iret rfl rfl (h_Kv ?_)
              clear hz92 hz94 hz96
              refine h_pop (pc' := 677) rfl rfl rfl ?_
              clear hz113
              refine h_goto (pc' := 1441) rfl rfl ?_
              exact kk _ Is116 (by first | exact d_tape.le j0 (Int.le_antisymm (by omega) (by omega)) (by omega) (fun j => (h_upo us116 rfl j).trans ((h_upo us90 rfl j))) (fun j => (h_upo us116 rfl j).trans ((h_upo us90 rfl j))) | (exfalso; omega)) (Int.le_antisymm (by omega) (by omega)) (c_R.las j2 I0 (by omega) (by omega) (Int.le_antisymm (by omega) (by omega)) (by omega) (fun j => (h_upo us116 rfl j).trans ((h_upi us90 j)))  (fun j => (h_upi us116 j).trans (congrArg (fun z => if j = (29 + (s0 0 (b3 + 1))) then 0 else z) ((h_upo us90 rfl j))))  (fun p j n0 n1 => (h_upq us116 n1 j).trans ((h_upq us90 n0 j)))) (g_ti.e j3 ((h_upg us116 rfl).trans (h_upg us90 rfl))) (g_SH.e j4 ((h_upg us116 rfl).trans (h_upg us90 rfl)) ((h_upg us116 rfl).trans (h_upg us90 rfl)) ((h_upg us116 rfl).trans (h_upg us90 rfl)) ((h_upg us116 rfl).trans (h_upg us90 rfl)) ((h_upg us116 rfl).trans (h_upg us90 rfl)) ((h_upg us116 rfl).trans (h_upg us90 rfl))) (Int.le_antisymm (by omega) (by omega))
            · refine h_bipush (pc' := 6) (x := (Int32.ofInt (-4))) rfl rfl cb_m4 ?_
              refine h_goto (pc' := 12) rfl rfl ?_
              refine h_iret rfl rfl (h_Kv ?_)
              clear hz111
              refine h_istore (pc' := 31) (M := [(5, .int (Int32.ofInt (-4))), (0, .ref 98), (1, .int (Int32.ofInt 1)), (2, .int z108), (3, .int z96), (4, .int (Int32.ofInt 1))]) rfl rfl rfl rfl ?_
              refine h_aload_n (pc' := 32) rfl rfl rfl ?_
              refine h_getR (pc' := 35) rfl rfl rfl rfl rfl ?_
              refine h_iload_n (pc' := 36) rfl rfl rfl ?_
              refine h_iload (pc' := 38) rfl rfl rfl ?_
              refine h_zne (tg := 45) (pc' := 41) rfl rfl rfl ci_1 (fun c117 => ?_) (fun c117 => absurd c117 (by omega))
              refine h_iload_n (pc' := 46) rfl rfl rfl ?_
              refine h_bipush (pc' := 48) (x := (Int32.ofInt (-4))) rfl rfl cb_m4 ?_
              refine h_cne (tg := 55) (pc' := 51) rfl rfl rfl hz96 ci_m4 (fun c118 => absurd (Int.le_antisymm (by omega) (by omega)) c118) (fun c118 => ?_)
              refine h_iconst (pc' := 52) (x := (Int32.ofInt 0)) rfl rfl rfl ?_
              refine h_goto (pc' := 58) rfl rfl ?_
              refine h_iast (pc' := 59) rfl rfl rfl rfl hz108 (by omega) (by omega) ci_0 (h_fgt (E := fun s => s 64 1 = s0 64 1 ∧ s 98 11 = s0 98 11 ∧ s 64 4 = s0 64 4 ∧ s 98 16 = s0 98 16 ∧ s 90 2 = s0 90 2 ∧ s 98 29 = s0 98 29 ∧ s 10 8 = s0 10 8 ∧ s 98 1 = s0 98 1 ∧ s 10 9 = s0 10 9 ∧ s 98 2 = s0 98 2 ∧ s = h_up s90 99 (29 + (s0 0 (b3 + 1))) 0) _ (ip_99_7 Is90 (by omega) (by omega)) (Fs90.up rfl) ⟨es90.1, es90.2.1, es90.2.2.1, es90.2.2.2.1, es90.2.2.2.2.1, es90.2.2.2.2.2.1, es90.2.2.2.2.2.2.1, es90.2.2.2.2.2.2.2.1, es90.2.2.2.2.2.2.2.2.1, es90.2.2.2.2.2.2.2.2.2.1, rfl⟩ (fun s119 Is119 Fs119 (es119 : s119 64 1 = s0 64 1 ∧ s119 98 11 = s0 98 11 ∧ s119 64 4 = s0 64 4 ∧ s119 98 16 = s0 98 16 ∧ s119 90 2 = s0 90 2 ∧ s119 98 29 = s0 98 29 ∧ s119 10 8 = s0 10 8 ∧ s119 98 1 = s0 98 1 ∧ s119 10 9 = s0 10 9 ∧ s119 98 2 = s0 98 2 ∧ s119 = h_up s90 99 (29 + (s0 0 (b3 + 1))) 0) => ?_))
              clear es90
              have us119 := es119.2.2.2.2.2.2.2.2.2.2
              have Zs119 : ∀ i, s119 0 i = s0 0 i := fun i => (h_upo us119 rfl i).trans (Zs90 i)
              refine h_iload (pc' := 61) rfl rfl rfl ?_
              refine h_iret rfl rfl (h_Kv ?_)
              clear hz108
              refine h_iret rfl rfl (h_Kv ?_)
              clear hz92 hz94 hz96
              refine h_pop (pc' := 677) rfl rfl rfl ?_
              refine h_goto (pc' := 1441) rfl rfl ?_
              exact kk _ Is119 (by first | exact d_tape.le j0 (Int.le_antisymm (by omega) (by omega)) (by omega) (fun j => (h_upo us119 rfl j).trans ((h_upo us90 rfl j))) (fun j => (h_upo us119 rfl j).trans ((h_upo us90 rfl j))) | (exfalso; omega)) (Int.le_antisymm (by omega) (by omega)) (c_R.las j2 I0 (by omega) (by omega) (Int.le_antisymm (by omega) (by omega)) (by omega) (fun j => (h_upo us119 rfl j).trans ((h_upi us90 j)))  (fun j => (h_upi us119 j).trans (congrArg (fun z => if j = (29 + (s0 0 (b3 + 1))) then 0 else z) ((h_upo us90 rfl j))))  (fun p j n0 n1 => (h_upq us119 n1 j).trans ((h_upq us90 n0 j)))) (g_ti.e j3 ((h_upg us119 rfl).trans (h_upg us90 rfl))) (g_SH.e j4 ((h_upg us119 rfl).trans (h_upg us90 rfl)) ((h_upg us119 rfl).trans (h_upg us90 rfl)) ((h_upg us119 rfl).trans (h_upg us90 rfl)) ((h_upg us119 rfl).trans (h_upg us90 rfl)) ((h_upg us119 rfl).trans (h_upg us90 rfl)) ((h_upg us119 rfl).trans (h_upg us90 rfl))) (Int.le_antisymm (by omega) (by omega))
          · refine h_aload_n (pc' := 63) rfl rfl rfl ?_
            refine h_getR (pc' := 66) rfl rfl rfl rfl rfl ?_
            refine h_iload_n (pc' := 67) rfl rfl rfl ?_
            refine h_call (sp := false) (pc' := 70) (M := [(0, .ref 10), (1, .int z6)]) rfl rfl rfl rfl rfl rfl rfl rfl ?_
            refine h_iload_n (pc' := 1) rfl rfl rfl ?_
            refine h_zlt (tg := 16) (pc' := 4) rfl rfl rfl hz6 (fun c120 => ?_) (fun c120 => ?_)
            · refine h_iconst (pc' := 17) (x := (Int32.ofInt 0)) rfl rfl rfl ?_
              refine h_zret rfl rfl ci_0 (by omega) (h_Kv ?_)
              refine h_zeq (tg := 97) (pc' := 73) rfl rfl rfl ci_0 (fun c121 => ?_) (fun c121 => absurd (Int.le_antisymm (by omega) (by omega)) c121)
              refine h_iconst (pc' := 98) (x := (Int32.ofInt (-1))) rfl rfl rfl ?_
              refine h_iret rfl rfl (h_Kv ?_)
              clear hz2 hz4 hz6
              refine h_pop (pc' := 657) rfl rfl rfl ?_
              refine h_aload_n (pc' := 658) rfl rfl rfl ?_
              refine h_aload_n (pc' := 659) rfl rfl rfl ?_
              refine h_iload_n (pc' := 660) rfl rfl rfl ?_
              refine h_iconst (pc' := 661) (x := (Int32.ofInt 1)) rfl rfl rfl ?_
              refine h_iadd (pc' := 662) rfl rfl hy3 ci_1 rfl (by omega) (by omega) (fun z122 hz122 => ?_)
              refine h_iald (pc' := 663) (v := s0 0 (b3 + 1)) rfl rfl rfl hz122 (by omega) (by omega) rfl (fun z123 hz123 => ?_)
              have tz123 := h_rgv hz123
              clear hz122
              refine h_aload_n (pc' := 664) rfl rfl rfl ?_
              refine h_iload_n (pc' := 665) rfl rfl rfl ?_
              refine h_iconst (pc' := 666) (x := (Int32.ofInt 2)) rfl rfl rfl ?_
              refine h_iadd (pc' := 667) rfl rfl hy3 ci_2 rfl (by omega) (by omega) (fun z124 hz124 => ?_)
              refine h_iald (pc' := 668) (v := s0 0 (b3 + 2)) rfl rfl rfl hz124 (by omega) (by omega) rfl (fun z125 hz125 => ?_)
              have tz125 := h_rgv hz125
              clear hz124
              refine h_aload_n (pc' := 669) rfl rfl rfl ?_
              refine h_iload_n (pc' := 670) rfl rfl rfl ?_
              refine h_iconst (pc' := 671) (x := (Int32.ofInt 3)) rfl rfl rfl ?_
              refine h_iadd (pc' := 672) rfl rfl hy3 ci_3 rfl (by omega) (by omega) (fun z126 hz126 => ?_)
              refine h_iald (pc' := 673) (v := s0 0 (b3 + 3)) rfl rfl rfl hz126 (by omega) (by omega) rfl (fun z127 hz127 => ?_)
              have tz127 := h_rgv hz127
              clear hz126
              refine h_call (sp := false) (pc' := 676) (M := [(0, .ref 98), (1, .int z123), (2, .int z125), (3, .int z127)]) rfl rfl rfl rfl rfl rfl rfl rfl ?_
              refine h_iload_n (pc' := 1) rfl rfl rfl ?_
              refine h_iconst (pc' := 2) (x := (Int32.ofInt 1)) rfl rfl rfl ?_
              refine h_cne (tg := 43) (pc' := 5) rfl rfl rfl hz125 ci_1 (fun c128 => absurd (Int.le_antisymm (by omega) (by omega)) c128) (fun c128 => ?_)
              refine h_aload_n (pc' := 6) rfl rfl rfl ?_
              refine h_aload_n (pc' := 7) rfl rfl rfl ?_
              refine h_iload_n (pc' := 8) rfl rfl rfl ?_
              refine h_call (sp := false) (pc' := 11) (M := [(0, .ref 98), (1, .int z123)]) rfl rfl rfl rfl rfl rfl rfl rfl ?_
              refine h_iload_n (pc' := 1) rfl rfl rfl ?_
              refine h_i2l (pc' := 2) rfl rfl hz123 (fun z129 hz129 => ?_)
              refine h_lconst (pc' := 3) (x := (Int64.ofInt 0)) rfl rfl rfl ?_
              refine h_aload_n (pc' := 4) rfl rfl rfl ?_
              refine h_getI (pc' := 7) (v := s0 98 2) rfl rfl rfl rfl rfl rfl (fun z130 hz130 => ?_)
              have tz130 := tf_98_2 I0
              refine h_iconst (pc' := 8) (x := (Int32.ofInt 1)) rfl rfl rfl ?_
              refine h_isub (pc' := 9) rfl rfl hz130 ci_1 rfl (by omega) (by omega) (fun z131 hz131 => ?_)
              clear hz130
              refine h_i2l (pc' := 10) rfl rfl hz131 (fun z132 hz132 => ?_)
              clear hz131
              refine h_calls (pc' := 13) (M := [(0, .long z129), (2, .long (Int64.ofInt 0)), (4, .long z132)]) rfl rfl rfl rfl rfl rfl ?_
              refine h_lload_n (pc' := 1) rfl rfl rfl ?_
              refine h_lload_n (pc' := 2) rfl rfl rfl ?_
              refine h_lcmp (pc' := 3) rfl rfl hz129 cl_0 (fun z133 hz133 => ?_)
              refine h_zlt (tg := 17) (pc' := 6) rfl rfl rfl rfl (fun c134 => absurd c134 (by omega)) (fun c134 => ?_)
              replace c134 := (h_lcr hz133).2.1 c134
              clear hz133
              refine h_lload_n (pc' := 7) rfl rfl rfl ?_
              refine h_lload (pc' := 9) rfl rfl rfl ?_
              refine h_lcmp (pc' := 10) rfl rfl hz129 hz132 (fun z135 hz135 => ?_)
              refine h_zgt (tg := 17) (pc' := 13) rfl rfl rfl rfl (fun c136 => absurd c136 (by omega)) (fun c136 => ?_)
              replace c136 := (h_lcr hz135).2.2.1 c136
              clear hz135
              refine h_iconst (pc' := 14) (x := (Int32.ofInt 1)) rfl rfl rfl ?_
              refine h_goto (pc' := 18) rfl rfl ?_
              refine h_zret rfl rfl ci_1 (by omega) (h_Kv ?_)
              clear hz129 hz132
              refine h_zret rfl rfl ci_1 (by omega) (h_Kv ?_)
              refine h_zeq (tg := 32) (pc' := 14) rfl rfl rfl ci_1 (fun c137 => absurd c137 (by omega)) (fun c137 => ?_)
              refine h_iload_n (pc' := 15) rfl rfl rfl ?_
              refine h_bipush (pc' := 17) (x := (Int32.ofInt (-4))) rfl rfl cb_m4 ?_
              refine h_ceq (tg := 28) (pc' := 20) rfl rfl rfl hz127 ci_m4 (fun c138 => absurd c138 (by omega)) (fun c138 => ?_)
              refine h_aload_n (pc' := 21) rfl rfl rfl ?_
              refine h_iload_n (pc' := 22) rfl rfl rfl ?_
              refine h_call (sp := false) (pc' := 25) (M := [(0, .ref 98), (1, .int z127)]) rfl rfl rfl rfl rfl rfl rfl rfl ?_
              refine h_iload_n (pc' := 1) rfl rfl rfl ?_
              refine h_i2l (pc' := 2) rfl rfl hz127 (fun z139 hz139 => ?_)
              refine h_lconst (pc' := 3) (x := (Int64.ofInt 0)) rfl rfl rfl ?_
              refine h_aload_n (pc' := 4) rfl rfl rfl ?_
              refine h_getI (pc' := 7) (v := s0 98 1) rfl rfl rfl rfl rfl rfl (fun z140 hz140 => ?_)
              have tz140 := tf_98_1 I0
              refine h_iconst (pc' := 8) (x := (Int32.ofInt 1)) rfl rfl rfl ?_
              refine h_isub (pc' := 9) rfl rfl hz140 ci_1 rfl (by omega) (by omega) (fun z141 hz141 => ?_)
              clear hz140
              refine h_i2l (pc' := 10) rfl rfl hz141 (fun z142 hz142 => ?_)
              clear hz141
              refine h_calls (pc' := 13) (M := [(0, .long z139), (2, .long (Int64.ofInt 0)), (4, .long z142)]) rfl rfl rfl rfl rfl rfl ?_
              refine h_lload_n (pc' := 1) rfl rfl rfl ?_
              refine h_lload_n (pc' := 2) rfl rfl rfl ?_
              refine h_lcmp (pc' := 3) rfl rfl hz139 cl_0 (fun z143 hz143 => ?_)
              refine h_zlt (tg := 17) (pc' := 6) rfl rfl rfl rfl (fun c144 => ?_) (fun c144 => absurd c144 (by omega))
              replace c144 := (h_lcr hz143).1 c144
              clear hz143
              refine h_iconst (pc' := 18) (x := (Int32.ofInt 0)) rfl rfl rfl ?_
              refine h_zret rfl rfl ci_0 (by omega) (h_Kv ?_)
              clear hz139 hz142
              refine h_zret rfl rfl ci_0 (by omega) (h_Kv ?_)
              refine h_zeq (tg := 32) (pc' := 28) rfl rfl rfl ci_0 (fun c145 => ?_) (fun c145 => absurd (Int.le_antisymm (by omega) (by omega)) c145)
              refine h_iconst (pc' := 33) (x := (Int32.ofInt 0)) rfl rfl rfl ?_
              refine h_bipush (pc' := 35) (x := (Int32.ofInt 29)) rfl rfl cb_29 ?_
              refine h_iload_n (pc' := 36) rfl rfl rfl ?_
              refine h_iadd (pc' := 37) rfl rfl ci_29 hz123 rfl (by have g0 := h_rgv hz123; omega) (by have g0 := h_rgv hz123; omega) (fun z146 hz146 => ?_)
              refine h_iload_n (pc' := 38) rfl rfl rfl ?_
              refine h_iconst (pc' := 39) (x := (Int32.ofInt 1)) rfl rfl rfl ?_
              refine h_call (sp := false) (pc' := 42) (M := [(0, .ref 98), (1, .int (Int32.ofInt 0)), (2, .int z146), (3, .int z127), (4, .int (Int32.ofInt 1))]) rfl rfl rfl rfl rfl rfl rfl rfl ?_
              refine h_iload_n (pc' := 1) rfl rfl rfl ?_
              refine h_zne (tg := 6) (pc' := 4) rfl rfl rfl ci_0 (fun c147 => absurd (Int.le_antisymm (by omega) (by omega)) c147) (fun c147 => ?_)
              refine h_iconst (pc' := 5) (x := (Int32.ofInt (-1))) rfl rfl rfl ?_
              refine h_iret rfl rfl (h_Kv ?_)
              clear hz146
              refine h_iret rfl rfl (h_Kv ?_)
              clear hz123 hz125 hz127
              refine h_pop (pc' := 677) rfl rfl rfl ?_
              refine h_goto (pc' := 1441) rfl rfl ?_
              exact kk _ I0 (by first | exact d_tape.le j0 (Int.le_antisymm (by omega) (by omega)) (by omega) (fun j => rfl) (fun j => rfl) | (exfalso; omega)) (Int.le_antisymm (by omega) (by omega)) j2 (g_ti.e j3 rfl) (g_SH.e j4 rfl rfl rfl rfl rfl rfl) (Int.le_antisymm (by omega) (by omega))
            · refine h_iload_n (pc' := 5) rfl rfl rfl ?_
              refine h_aload_n (pc' := 6) rfl rfl rfl ?_
              refine h_getI (pc' := 9) (v := s0 10 8) rfl rfl rfl rfl rfl rfl (fun z148 hz148 => ?_)
              have tz148 := tf_10_8 I0
              refine h_cge (tg := 16) (pc' := 12) rfl rfl rfl hz6 hz148 (fun c149 => ?_) (fun c149 => ?_)
              · clear hz148
                refine h_iconst (pc' := 17) (x := (Int32.ofInt 0)) rfl rfl rfl ?_
                refine h_zret rfl rfl ci_0 (by omega) (h_Kv ?_)
                refine h_zeq (tg := 97) (pc' := 73) rfl rfl rfl ci_0 (fun c150 => ?_) (fun c150 => absurd (Int.le_antisymm (by omega) (by omega)) c150)
                refine h_iconst (pc' := 98) (x := (Int32.ofInt (-1))) rfl rfl rfl ?_
                refine h_iret rfl rfl (h_Kv ?_)
                clear hz2 hz4 hz6
                refine h_pop (pc' := 657) rfl rfl rfl ?_
                refine h_aload_n (pc' := 658) rfl rfl rfl ?_
                refine h_aload_n (pc' := 659) rfl rfl rfl ?_
                refine h_iload_n (pc' := 660) rfl rfl rfl ?_
                refine h_iconst (pc' := 661) (x := (Int32.ofInt 1)) rfl rfl rfl ?_
                refine h_iadd (pc' := 662) rfl rfl hy3 ci_1 rfl (by omega) (by omega) (fun z151 hz151 => ?_)
                refine h_iald (pc' := 663) (v := s0 0 (b3 + 1)) rfl rfl rfl hz151 (by omega) (by omega) rfl (fun z152 hz152 => ?_)
                have tz152 := h_rgv hz152
                clear hz151
                refine h_aload_n (pc' := 664) rfl rfl rfl ?_
                refine h_iload_n (pc' := 665) rfl rfl rfl ?_
                refine h_iconst (pc' := 666) (x := (Int32.ofInt 2)) rfl rfl rfl ?_
                refine h_iadd (pc' := 667) rfl rfl hy3 ci_2 rfl (by omega) (by omega) (fun z153 hz153 => ?_)
                refine h_iald (pc' := 668) (v := s0 0 (b3 + 2)) rfl rfl rfl hz153 (by omega) (by omega) rfl (fun z154 hz154 => ?_)
                have tz154 := h_rgv hz154
                clear hz153
                refine h_aload_n (pc' := 669) rfl rfl rfl ?_
                refine h_iload_n (pc' := 670) rfl rfl rfl ?_
                refine h_iconst (pc' := 671) (x := (Int32.ofInt 3)) rfl rfl rfl ?_
                refine h_iadd (pc' := 672) rfl rfl hy3 ci_3 rfl (by omega) (by omega) (fun z155 hz155 => ?_)
                refine h_iald (pc' := 673) (v := s0 0 (b3 + 3)) rfl rfl rfl hz155 (by omega) (by omega) rfl (fun z156 hz156 => ?_)
                have tz156 := h_rgv hz156
                clear hz155
                refine h_call (sp := false) (pc' := 676) (M := [(0, .ref 98), (1, .int z152), (2, .int z154), (3, .int z156)]) rfl rfl rfl rfl rfl rfl rfl rfl ?_
                refine h_iload_n (pc' := 1) rfl rfl rfl ?_
                refine h_iconst (pc' := 2) (x := (Int32.ofInt 1)) rfl rfl rfl ?_
                refine h_cne (tg := 43) (pc' := 5) rfl rfl rfl hz154 ci_1 (fun c157 => absurd (Int.le_antisymm (by omega) (by omega)) c157) (fun c157 => ?_)
                refine h_aload_n (pc' := 6) rfl rfl rfl ?_
                refine h_aload_n (pc' := 7) rfl rfl rfl ?_
                refine h_iload_n (pc' := 8) rfl rfl rfl ?_
                refine h_call (sp := false) (pc' := 11) (M := [(0, .ref 98), (1, .int z152)]) rfl rfl rfl rfl rfl rfl rfl rfl ?_
                refine h_iload_n (pc' := 1) rfl rfl rfl ?_
                refine h_i2l (pc' := 2) rfl rfl hz152 (fun z158 hz158 => ?_)
                refine h_lconst (pc' := 3) (x := (Int64.ofInt 0)) rfl rfl rfl ?_
                refine h_aload_n (pc' := 4) rfl rfl rfl ?_
                refine h_getI (pc' := 7) (v := s0 98 2) rfl rfl rfl rfl rfl rfl (fun z159 hz159 => ?_)
                have tz159 := tf_98_2 I0
                refine h_iconst (pc' := 8) (x := (Int32.ofInt 1)) rfl rfl rfl ?_
                refine h_isub (pc' := 9) rfl rfl hz159 ci_1 rfl (by omega) (by omega) (fun z160 hz160 => ?_)
                clear hz159
                refine h_i2l (pc' := 10) rfl rfl hz160 (fun z161 hz161 => ?_)
                clear hz160
                refine h_calls (pc' := 13) (M := [(0, .long z158), (2, .long (Int64.ofInt 0)), (4, .long z161)]) rfl rfl rfl rfl rfl rfl ?_
                refine h_lload_n (pc' := 1) rfl rfl rfl ?_
                refine h_lload_n (pc' := 2) rfl rfl rfl ?_
                refine h_lcmp (pc' := 3) rfl rfl hz158 cl_0 (fun z162 hz162 => ?_)
                refine h_zlt (tg := 17) (pc' := 6) rfl rfl rfl rfl (fun c163 => absurd c163 (by omega)) (fun c163 => ?_)
                replace c163 := (h_lcr hz162).2.1 c163
                clear hz162
                refine h_lload_n (pc' := 7) rfl rfl rfl ?_
                refine h_lload (pc' := 9) rfl rfl rfl ?_
                refine h_lcmp (pc' := 10) rfl rfl hz158 hz161 (fun z164 hz164 => ?_)
                refine h_zgt (tg := 17) (pc' := 13) rfl rfl rfl rfl (fun c165 => absurd c165 (by omega)) (fun c165 => ?_)
                replace c165 := (h_lcr hz164).2.2.1 c165
                clear hz164
                refine h_iconst (pc' := 14) (x := (Int32.ofInt 1)) rfl rfl rfl ?_
                refine h_goto (pc' := 18) rfl rfl ?_
                refine h_zret rfl rfl ci_1 (by omega) (h_Kv ?_)
                clear hz158 hz161
                refine h_zret rfl rfl ci_1 (by omega) (h_Kv ?_)
                refine h_zeq (tg := 32) (pc' := 14) rfl rfl rfl ci_1 (fun c166 => absurd c166 (by omega)) (fun c166 => ?_)
                refine h_iload_n (pc' := 15) rfl rfl rfl ?_
                refine h_bipush (pc' := 17) (x := (Int32.ofInt (-4))) rfl rfl cb_m4 ?_
                refine h_ceq (tg := 28) (pc' := 20) rfl rfl rfl hz156 ci_m4 (fun c167 => absurd c167 (by omega)) (fun c167 => ?_)
                refine h_aload_n (pc' := 21) rfl rfl rfl ?_
                refine h_iload_n (pc' := 22) rfl rfl rfl ?_
                refine h_call (sp := false) (pc' := 25) (M := [(0, .ref 98), (1, .int z156)]) rfl rfl rfl rfl rfl rfl rfl rfl ?_
                refine h_iload_n (pc' := 1) rfl rfl rfl ?_
                refine h_i2l (pc' := 2) rfl rfl hz156 (fun z168 hz168 => ?_)
                refine h_lconst (pc' := 3) (x := (Int64.ofInt 0)) rfl rfl rfl ?_
                refine h_aload_n (pc' := 4) rfl rfl rfl ?_
                refine h_getI (pc' := 7) (v := s0 98 1) rfl rfl rfl rfl rfl rfl (fun z169 hz169 => ?_)
                have tz169 := tf_98_1 I0
                refine h_iconst (pc' := 8) (x := (Int32.ofInt 1)) rfl rfl rfl ?_
                refine h_isub (pc' := 9) rfl rfl hz169 ci_1 rfl (by omega) (by omega) (fun z170 hz170 => ?_)
                clear hz169
                refine h_i2l (pc' := 10) rfl rfl hz170 (fun z171 hz171 => ?_)
                clear hz170
                refine h_calls (pc' := 13) (M := [(0, .long z168), (2, .long (Int64.ofInt 0)), (4, .long z171)]) rfl rfl rfl rfl rfl rfl ?_
                refine h_lload_n (pc' := 1) rfl rfl rfl ?_
                refine h_lload_n (pc' := 2) rfl rfl rfl ?_
                refine h_lcmp (pc' := 3) rfl rfl hz168 cl_0 (fun z172 hz172 => ?_)
                refine h_zlt (tg := 17) (pc' := 6) rfl rfl rfl rfl (fun c173 => absurd c173 (by omega)) (fun c173 => ?_)
                replace c173 := (h_lcr hz172).2.1 c173
                clear hz172
                refine h_lload_n (pc' := 7) rfl rfl rfl ?_
                refine h_lload (pc' := 9) rfl rfl rfl ?_
                refine h_lcmp (pc' := 10) rfl rfl hz168 hz171 (fun z174 hz174 => ?_)
                refine h_zgt (tg := 17) (pc' := 13) rfl rfl rfl rfl (fun c175 => ?_) (fun c175 => absurd c175 (by omega))
                replace c175 := (h_lcr hz174).2.2.2.1 c175
                clear hz174
                refine h_iconst (pc' := 18) (x := (Int32.ofInt 0)) rfl rfl rfl ?_
                refine h_zret rfl rfl ci_0 (by omega) (h_Kv ?_)
                clear hz168 hz171
                refine h_zret rfl rfl ci_0 (by omega) (h_Kv ?_)
                refine h_zeq (tg := 32) (pc' := 28) rfl rfl rfl ci_0 (fun c176 => ?_) (fun c176 => absurd (Int.le_antisymm (by omega) (by omega)) c176)
                refine h_iconst (pc' := 33) (x := (Int32.ofInt 0)) rfl rfl rfl ?_
                refine h_bipush (pc' := 35) (x := (Int32.ofInt 29)) rfl rfl cb_29 ?_
                refine h_iload_n (pc' := 36) rfl rfl rfl ?_
                refine h_iadd (pc' := 37) rfl rfl ci_29 hz152 rfl (by have g0 := h_rgv hz152; omega) (by have g0 := h_rgv hz152; omega) (fun z177 hz177 => ?_)
                refine h_iload_n (pc' := 38) rfl rfl rfl ?_
                refine h_iconst (pc' := 39) (x := (Int32.ofInt 1)) rfl rfl rfl ?_
                refine h_call (sp := false) (pc' := 42) (M := [(0, .ref 98), (1, .int (Int32.ofInt 0)), (2, .int z177), (3, .int z156), (4, .int (Int32.ofInt 1))]) rfl rfl rfl rfl rfl rfl rfl rfl ?_
                refine h_iload_n (pc' := 1) rfl rfl rfl ?_
                refine h_zne (tg := 6) (pc' := 4) rfl rfl rfl ci_0 (fun c178 => absurd (Int.le_antisymm (by omega) (by omega)) c178) (fun c178 => ?_)
                refine h_iconst (pc' := 5) (x := (Int32.ofInt (-1))) rfl rfl rfl ?_
                refine h_iret rfl rfl (h_Kv ?_)
                clear hz177
                refine h_iret rfl rfl (h_Kv ?_)
                clear hz152 hz154 hz156
                refine h_pop (pc' := 677) rfl rfl rfl ?_
                refine h_goto (pc' := 1441) rfl rfl ?_
                exact kk _ I0 (by first | exact d_tape.le j0 (Int.le_antisymm (by omega) (by omega)) (by omega) (fun j => rfl) (fun j => rfl) | (exfalso; omega)) (Int.le_antisymm (by omega) (by omega)) j2 (g_ti.e j3 rfl) (g_SH.e j4 rfl rfl rfl rfl rfl rfl) (Int.le_antisymm (by omega) (by omega))
              · clear hz148
                refine h_iconst (pc' := 13) (x := (Int32.ofInt 1)) rfl rfl rfl ?_
                refine h_goto (pc' := 17) rfl rfl ?_
                refine h_zret rfl rfl ci_1 (by omega) (h_Kv ?_)
                refine h_zeq (tg := 97) (pc' := 73) rfl rfl rfl ci_1 (fun c179 => absurd c179 (by omega)) (fun c179 => ?_)
                refine h_aload_n (pc' := 74) rfl rfl rfl ?_
                refine h_getR (pc' := 77) rfl rfl rfl rfl rfl ?_
                refine h_getR (pc' := 80) rfl rfl rfl rfl rfl ?_
                refine h_iload_n (pc' := 81) rfl rfl rfl ?_
                refine h_iald (pc' := 82) (v := s0 20 (s0 0 (b3 + 1))) rfl rfl rfl hz2 (by omega) (by omega) rfl (fun z180 hz180 => ?_)
                have tz180 := ty_20 I0 (s0 0 (b3 + 1))
                refine h_istore (pc' := 84) (M := [(4, .int z180), (0, .ref 9), (1, .int z2), (2, .int z4), (3, .int z6)]) rfl rfl rfl rfl ?_
                refine h_aload_n (pc' := 85) rfl rfl rfl ?_
                refine h_getR (pc' := 88) rfl rfl rfl rfl rfl ?_
                refine h_getR (pc' := 91) rfl rfl rfl rfl rfl ?_
                refine h_iload_n (pc' := 92) rfl rfl rfl ?_
                refine h_iload_n (pc' := 93) rfl rfl rfl ?_
                refine h_iast (pc' := 94) rfl rfl rfl rfl hz2 (by omega) (by omega) hz6 (h_fgt (E := fun s => s 64 1 = s0 64 1 ∧ s 98 11 = s0 98 11 ∧ s 64 4 = s0 64 4 ∧ s 98 16 = s0 98 16 ∧ s 90 2 = s0 90 2 ∧ s 98 29 = s0 98 29 ∧ s 10 8 = s0 10 8 ∧ s 98 1 = s0 98 1 ∧ s 10 9 = s0 10 9 ∧ s 98 2 = s0 98 2 ∧ s = h_up s0 20 (s0 0 (b3 + 1)) (s0 0 (b3 + 3))) _ (in_20 I0 (by omega)) (F0_.up rfl) ⟨rfl, rfl, rfl, rfl, rfl, rfl, rfl, rfl, rfl, rfl, rfl⟩ (fun s181 Is181 Fs181 (es181 : s181 64 1 = s0 64 1 ∧ s181 98 11 = s0 98 11 ∧ s181 64 4 = s0 64 4 ∧ s181 98 16 = s0 98 16 ∧ s181 90 2 = s0 90 2 ∧ s181 98 29 = s0 98 29 ∧ s181 10 8 = s0 10 8 ∧ s181 98 1 = s0 98 1 ∧ s181 10 9 = s0 10 9 ∧ s181 98 2 = s0 98 2 ∧ s181 = h_up s0 20 (s0 0 (b3 + 1)) (s0 0 (b3 + 3))) => ?_))
                have us181 := es181.2.2.2.2.2.2.2.2.2.2
                have Zs181 : ∀ i, s181 0 i = s0 0 i := fun i => (h_upo us181 rfl i).trans rfl
                refine h_iload (pc' := 96) rfl rfl rfl ?_
                refine h_iret rfl rfl (h_Kv ?_)
                clear hz2 hz4 hz6
                refine h_pop (pc' := 657) rfl rfl rfl ?_
                clear hz180
                refine h_aload_n (pc' := 658) rfl rfl rfl ?_
                refine h_aload_n (pc' := 659) rfl rfl rfl ?_
                refine h_iload_n (pc' := 660) rfl rfl rfl ?_
                refine h_iconst (pc' := 661) (x := (Int32.ofInt 1)) rfl rfl rfl ?_
                refine h_iadd (pc' := 662) rfl rfl hy3 ci_1 rfl (by omega) (by omega) (fun z182 hz182 => ?_)
                refine h_iald (pc' := 663) (v := s0 0 (b3 + 1)) rfl rfl rfl hz182 (by omega) (by omega) (Zs181 _) (fun z183 hz183 => ?_)
                have tz183 := h_rgv hz183
                clear hz182
                refine h_aload_n (pc' := 664) rfl rfl rfl ?_
                refine h_iload_n (pc' := 665) rfl rfl rfl ?_
                refine h_iconst (pc' := 666) (x := (Int32.ofInt 2)) rfl rfl rfl ?_
                refine h_iadd (pc' := 667) rfl rfl hy3 ci_2 rfl (by omega) (by omega) (fun z184 hz184 => ?_)
                refine h_iald (pc' := 668) (v := s0 0 (b3 + 2)) rfl rfl rfl hz184 (by omega) (by omega) (Zs181 _) (fun z185 hz185 => ?_)
                have tz185 := h_rgv hz185
                clear hz184
                refine h_aload_n (pc' := 669) rfl rfl rfl ?_
                refine h_iload_n (pc' := 670) rfl rfl rfl ?_
                refine h_iconst (pc' := 671) (x := (Int32.ofInt 3)) rfl rfl rfl ?_
                refine h_iadd (pc' := 672) rfl rfl hy3 ci_3 rfl (by omega) (by omega) (fun z186 hz186 => ?_)
                refine h_iald (pc' := 673) (v := s0 0 (b3 + 3)) rfl rfl rfl hz186 (by omega) (by omega) (Zs181 _) (fun z187 hz187 => ?_)
                have tz187 := h_rgv hz187
                clear hz186
                refine h_call (sp := false) (pc' := 676) (M := [(0, .ref 98), (1, .int z183), (2, .int z185), (3, .int z187)]) rfl rfl rfl rfl rfl rfl rfl rfl ?_
                refine h_iload_n (pc' := 1) rfl rfl rfl ?_
                refine h_iconst (pc' := 2) (x := (Int32.ofInt 1)) rfl rfl rfl ?_
                refine h_cne (tg := 43) (pc' := 5) rfl rfl rfl hz185 ci_1 (fun c188 => absurd (Int.le_antisymm (by omega) (by omega)) c188) (fun c188 => ?_)
                refine h_aload_n (pc' := 6) rfl rfl rfl ?_
                refine h_aload_n (pc' := 7) rfl rfl rfl ?_
                refine h_iload_n (pc' := 8) rfl rfl rfl ?_
                refine h_call (sp := false) (pc' := 11) (M := [(0, .ref 98), (1, .int z183)]) rfl rfl rfl rfl rfl rfl rfl rfl ?_
                refine h_iload_n (pc' := 1) rfl rfl rfl ?_
                refine h_i2l (pc' := 2) rfl rfl hz183 (fun z189 hz189 => ?_)
                refine h_lconst (pc' := 3) (x := (Int64.ofInt 0)) rfl rfl rfl ?_
                refine h_aload_n (pc' := 4) rfl rfl rfl ?_
                refine h_getI (pc' := 7) (v := s0 98 2) rfl rfl rfl rfl rfl es181.2.2.2.2.2.2.2.2.2.1 (fun z190 hz190 => ?_)
                have tz190 := tf_98_2 I0
                refine h_iconst (pc' := 8) (x := (Int32.ofInt 1)) rfl rfl rfl ?_
                refine h_isub (pc' := 9) rfl rfl hz190 ci_1 rfl (by omega) (by omega) (fun z191 hz191 => ?_)
                clear hz190
                refine h_i2l (pc' := 10) rfl rfl hz191 (fun z192 hz192 => ?_)
                clear hz191
                refine h_calls (pc' := 13) (M := [(0, .long z189), (2, .long (Int64.ofInt 0)), (4, .long z192)]) rfl rfl rfl rfl rfl rfl ?_
                refine h_lload_n (pc' := 1) rfl rfl rfl ?_
                refine h_lload_n (pc' := 2) rfl rfl rfl ?_
                refine h_lcmp (pc' := 3) rfl rfl hz189 cl_0 (fun z193 hz193 => ?_)
                refine h_zlt (tg := 17) (pc' := 6) rfl rfl rfl rfl (fun c194 => absurd c194 (by omega)) (fun c194 => ?_)
                replace c194 := (h_lcr hz193).2.1 c194
                clear hz193
                refine h_lload_n (pc' := 7) rfl rfl rfl ?_
                refine h_lload (pc' := 9) rfl rfl rfl ?_
                refine h_lcmp (pc' := 10) rfl rfl hz189 hz192 (fun z195 hz195 => ?_)
                refine h_zgt (tg := 17) (pc' := 13) rfl rfl rfl rfl (fun c196 => absurd c196 (by omega)) (fun c196 => ?_)
                replace c196 := (h_lcr hz195).2.2.1 c196
                clear hz195
                refine h_iconst (pc' := 14) (x := (Int32.ofInt 1)) rfl rfl rfl ?_
                refine h_goto (pc' := 18) rfl rfl ?_
                refine h_zret rfl rfl ci_1 (by omega) (h_Kv ?_)
                clear hz189 hz192
                refine h_zret rfl rfl ci_1 (by omega) (h_Kv ?_)
                refine h_zeq (tg := 32) (pc' := 14) rfl rfl rfl ci_1 (fun c197 => absurd c197 (by omega)) (fun c197 => ?_)
                refine h_iload_n (pc' := 15) rfl rfl rfl ?_
                refine h_bipush (pc' := 17) (x := (Int32.ofInt (-4))) rfl rfl cb_m4 ?_
                refine h_ceq (tg := 28) (pc' := 20) rfl rfl rfl hz187 ci_m4 (fun c198 => absurd c198 (by omega)) (fun c198 => ?_)
                refine h_aload_n (pc' := 21) rfl rfl rfl ?_
                refine h_iload_n (pc' := 22) rfl rfl rfl ?_
                refine h_call (sp := false) (pc' := 25) (M := [(0, .ref 98), (1, .int z187)]) rfl rfl rfl rfl rfl rfl rfl rfl ?_
                refine h_iload_n (pc' := 1) rfl rfl rfl ?_
                refine h_i2l (pc' := 2) rfl rfl hz187 (fun z199 hz199 => ?_)
                refine h_lconst (pc' := 3) (x := (Int64.ofInt 0)) rfl rfl rfl ?_
                refine h_aload_n (pc' := 4) rfl rfl rfl ?_
                refine h_getI (pc' := 7) (v := s0 98 1) rfl rfl rfl rfl rfl es181.2.2.2.2.2.2.2.1 (fun z200 hz200 => ?_)
                have tz200 := tf_98_1 I0
                refine h_iconst (pc' := 8) (x := (Int32.ofInt 1)) rfl rfl rfl ?_
                refine h_isub (pc' := 9) rfl rfl hz200 ci_1 rfl (by omega) (by omega) (fun z201 hz201 => ?_)
                clear hz200
                refine h_i2l (pc' := 10) rfl rfl hz201 (fun z202 hz202 => ?_)
                clear hz201
                refine h_calls (pc' := 13) (M := [(0, .long z199), (2, .long (Int64.ofInt 0)), (4, .long z202)]) rfl rfl rfl rfl rfl rfl ?_
                refine h_lload_n (pc' := 1) rfl rfl rfl ?_
                refine h_lload_n (pc' := 2) rfl rfl rfl ?_
                refine h_lcmp (pc' := 3) rfl rfl hz199 cl_0 (fun z203 hz203 => ?_)
                refine h_zlt (tg := 17) (pc' := 6) rfl rfl rfl rfl (fun c204 => absurd c204 (by omega)) (fun c204 => ?_)
                replace c204 := (h_lcr hz203).2.1 c204
                clear hz203
                refine h_lload_n (pc' := 7) rfl rfl rfl ?_
                refine h_lload (pc' := 9) rfl rfl rfl ?_
                refine h_lcmp (pc' := 10) rfl rfl hz199 hz202 (fun z205 hz205 => ?_)
                refine h_zgt (tg := 17) (pc' := 13) rfl rfl rfl rfl (fun c206 => absurd c206 (by omega)) (fun c206 => ?_)
                replace c206 := (h_lcr hz205).2.2.1 c206
                clear hz205
                refine h_iconst (pc' := 14) (x := (Int32.ofInt 1)) rfl rfl rfl ?_
                refine h_goto (pc' := 18) rfl rfl ?_
                refine h_zret rfl rfl ci_1 (by omega) (h_Kv ?_)
                clear hz199 hz202
                refine h_zret rfl rfl ci_1 (by omega) (h_Kv ?_)
                refine h_zeq (tg := 32) (pc' := 28) rfl rfl rfl ci_1 (fun c207 => absurd c207 (by omega)) (fun c207 => ?_)
                refine h_iconst (pc' := 29) (x := (Int32.ofInt 1)) rfl rfl rfl ?_
                refine h_goto (pc' := 33) rfl rfl ?_
                refine h_bipush (pc' := 35) (x := (Int32.ofInt 29)) rfl rfl cb_29 ?_
                refine h_iload_n (pc' := 36) rfl rfl rfl ?_
                refine h_iadd (pc' := 37) rfl rfl ci_29 hz183 rfl (by have g0 := h_rgv hz183; omega) (by have g0 := h_rgv hz183; omega) (fun z208 hz208 => ?_)
                refine h_iload_n (pc' := 38) rfl rfl rfl ?_
                refine h_iconst (pc' := 39) (x := (Int32.ofInt 1)) rfl rfl rfl ?_
                refine h_call (sp := false) (pc' := 42) (M := [(0, .ref 98), (1, .int (Int32.ofInt 1)), (2, .int z208), (3, .int z187), (4, .int (Int32.ofInt 1))]) rfl rfl rfl rfl rfl rfl rfl rfl ?_
                refine h_iload_n (pc' := 1) rfl rfl rfl ?_
                refine h_zne (tg := 6) (pc' := 4) rfl rfl rfl ci_1 (fun c209 => ?_) (fun c209 => absurd c209 (by omega))
                refine h_iload (pc' := 8) rfl rfl rfl ?_
                refine h_zne (tg := 20) (pc' := 11) rfl rfl rfl ci_1 (fun c210 => ?_) (fun c210 => absurd c210 (by omega))
                refine h_aload_n (pc' := 21) rfl rfl rfl ?_
                refine h_getR (pc' := 24) rfl rfl rfl rfl rfl ?_
                refine h_iload_n (pc' := 25) rfl rfl rfl ?_
                refine h_iald (pc' := 26) (v := s181 99 (29 + (s0 0 (b3 + 1)))) rfl rfl rfl hz208 (by omega) (by omega) rfl (fun z211 hz211 => ?_)
                have tz211 := ty_99_7 Is181 (29 + (s0 0 (b3 + 1))) (by omega)
                refine h_calls (pc' := 29) (M := [(0, .int z211)]) rfl rfl rfl rfl rfl rfl ?_
                refine h_iload_n (pc' := 1) rfl rfl rfl ?_
                refine h_zne (tg := 9) (pc' := 4) rfl rfl rfl hz211 (fun c212 => ?_) (fun c212 => ?_)
                · refine h_iload_n (pc' := 10) rfl rfl rfl ?_
                  refine h_iconst (pc' := 11) (x := (Int32.ofInt 1)) rfl rfl rfl ?_
                  refine h_isub (pc' := 12) rfl rfl hz211 ci_1 rfl (by omega) (by omega) (fun z213 hz213 => ?_)
                  refine h_iret rfl rfl (h_Kv ?_)
                  clear hz211
                  refine h_istore (pc' := 31) (M := [(5, .int z213), (0, .ref 98), (1, .int (Int32.ofInt 1)), (2, .int z208), (3, .int z187), (4, .int (Int32.ofInt 1))]) rfl rfl rfl rfl ?_
                  refine h_aload_n (pc' := 32) rfl rfl rfl ?_
                  refine h_getR (pc' := 35) rfl rfl rfl rfl rfl ?_
                  refine h_iload_n (pc' := 36) rfl rfl rfl ?_
                  refine h_iload (pc' := 38) rfl rfl rfl ?_
                  refine h_zne (tg := 45) (pc' := 41) rfl rfl rfl ci_1 (fun c214 => ?_) (fun c214 => absurd c214 (by omega))
                  refine h_iload_n (pc' := 46) rfl rfl rfl ?_
                  refine h_bipush (pc' := 48) (x := (Int32.ofInt (-4))) rfl rfl cb_m4 ?_
                  refine h_cne (tg := 55) (pc' := 51) rfl rfl rfl hz187 ci_m4 (fun c215 => ?_) (fun c215 => absurd c215 (by omega))
                  refine h_iload_n (pc' := 56) rfl rfl rfl ?_
                  refine h_iconst (pc' := 57) (x := (Int32.ofInt 1)) rfl rfl rfl ?_
                  refine h_iadd (pc' := 58) rfl rfl hz187 ci_1 rfl (by have g0 := h_rgv hz187; omega) (by have g0 := h_rgv hz187; omega) (fun z216 hz216 => ?_)
                  refine h_iast (pc' := 59) rfl rfl rfl rfl hz208 (by omega) (by omega) hz216 (h_fgt (E := fun s => s 64 1 = s0 64 1 ∧ s 98 11 = s0 98 11 ∧ s 64 4 = s0 64 4 ∧ s 98 16 = s0 98 16 ∧ s 90 2 = s0 90 2 ∧ s 98 29 = s0 98 29 ∧ s 10 8 = s0 10 8 ∧ s 98 1 = s0 98 1 ∧ s 10 9 = s0 10 9 ∧ s 98 2 = s0 98 2 ∧ s = h_up s181 99 (29 + (s0 0 (b3 + 1))) ((s0 0 (b3 + 3)) + 1)) _ (ip_99_7 Is181 (by omega) (by omega)) (Fs181.up rfl) ⟨es181.1, es181.2.1, es181.2.2.1, es181.2.2.2.1, es181.2.2.2.2.1, es181.2.2.2.2.2.1, es181.2.2.2.2.2.2.1, es181.2.2.2.2.2.2.2.1, es181.2.2.2.2.2.2.2.2.1, es181.2.2.2.2.2.2.2.2.2.1, rfl⟩ (fun s217 Is217 Fs217 (es217 : s217 64 1 = s0 64 1 ∧ s217 98 11 = s0 98 11 ∧ s217 64 4 = s0 64 4 ∧ s217 98 16 = s0 98 16 ∧ s217 90 2 = s0 90 2 ∧ s217 98 29 = s0 98 29 ∧ s217 10 8 = s0 10 8 ∧ s217 98 1 = s0 98 1 ∧ s217 10 9 = s0 10 9 ∧ s217 98 2 = s0 98 2 ∧ s217 = h_up s181 99 (29 + (s0 0 (b3 + 1))) ((s0 0 (b3 + 3)) + 1)) => ?_))
                  clear es181
                  have us217 := es217.2.2.2.2.2.2.2.2.2.2
                  have Zs217 : ∀ i, s217 0 i = s0 0 i := fun i => (h_upo us217 rfl i).trans (Zs181 i)
                  clear hz216
                  refine h_iload (pc' := 61) rfl rfl rfl ?_
                  refine h_iret rfl rfl (h_Kv ?_)
                  clear hz208
                  refine h_iret rfl rfl (h_Kv ?_)
                  clear hz183 hz185 hz187
                  refine h_pop (pc' := 677) rfl rfl rfl ?_
                  clear hz213
                  refine h_goto (pc' := 1441) rfl rfl ?_
                  exact kk _ Is217 (by first | exact d_tape.le j0 (Int.le_antisymm (by omega) (by omega)) (by omega) (fun j => (h_upo us217 rfl j).trans ((h_upo us181 rfl j))) (fun j => (h_upo us217 rfl j).trans ((h_upo us181 rfl j))) | (exfalso; omega)) (Int.le_antisymm (by omega) (by omega)) (c_R.las j2 I0 (by omega) (by omega) (Int.le_antisymm (by omega) (by omega)) (by omega) (fun j => (h_upo us217 rfl j).trans ((h_upi us181 j)))  (fun j => (h_upi us217 j).trans (congrArg (fun z => if j = (29 + (s0 0 (b3 + 1))) then ((s0 0 (b3 + 3)) + 1) else z) ((h_upo us181 rfl j))))  (fun p j n0 n1 => (h_upq us217 n1 j).trans ((h_upq us181 n0 j)))) (g_ti.e j3 ((h_upg us217 rfl).trans (h_upg us181 rfl))) (g_SH.e j4 ((h_upg us217 rfl).trans (h_upg us181 rfl)) ((h_upg us217 rfl).trans (h_upg us181 rfl)) ((h_upg us217 rfl).trans (h_upg us181 rfl)) ((h_upg us217 rfl).trans (h_upg us181 rfl)) ((h_upg us217 rfl).trans (h_upg us181 rfl)) ((h_upg us217 rfl).trans (h_upg us181 rfl))) (Int.le_antisymm (by omega) (by omega))
                · refine h_bipush (pc' := 6) (x := (Int32.ofInt (-4))) rfl rfl cb_m4 ?_
                  refine h_goto (pc' := 12) rfl rfl ?_
                  refine h_iret rfl rfl (h_Kv ?_)
                  clear hz211
                  refine h_istore (pc' := 31) (M := [(5, .int (Int32.ofInt (-4))), (0, .ref 98), (1, .int (Int32.ofInt 1)), (2, .int z208), (3, .int z187), (4, .int (Int32.ofInt 1))]) rfl rfl rfl rfl ?_
                  refine h_aload_n (pc' := 32) rfl rfl rfl ?_
                  refine h_getR (pc' := 35) rfl rfl rfl rfl rfl ?_
                  refine h_iload_n (pc' := 36) rfl rfl rfl ?_
                  refine h_iload (pc' := 38) rfl rfl rfl ?_
                  refine h_zne (tg := 45) (pc' := 41) rfl rfl rfl ci_1 (fun c218 => ?_) (fun c218 => absurd c218 (by omega))
                  refine h_iload_n (pc' := 46) rfl rfl rfl ?_
                  refine h_bipush (pc' := 48) (x := (Int32.ofInt (-4))) rfl rfl cb_m4 ?_
                  refine h_cne (tg := 55) (pc' := 51) rfl rfl rfl hz187 ci_m4 (fun c219 => ?_) (fun c219 => absurd c219 (by omega))
                  refine h_iload_n (pc' := 56) rfl rfl rfl ?_
                  refine h_iconst (pc' := 57) (x := (Int32.ofInt 1)) rfl rfl rfl ?_
                  refine h_iadd (pc' := 58) rfl rfl hz187 ci_1 rfl (by have g0 := h_rgv hz187; omega) (by have g0 := h_rgv hz187; omega) (fun z220 hz220 => ?_)
                  refine h_iast (pc' := 59) rfl rfl rfl rfl hz208 (by omega) (by omega) hz220 (h_fgt (E := fun s => s 64 1 = s0 64 1 ∧ s 98 11 = s0 98 11 ∧ s 64 4 = s0 64 4 ∧ s 98 16 = s0 98 16 ∧ s 90 2 = s0 90 2 ∧ s 98 29 = s0 98 29 ∧ s 10 8 = s0 10 8 ∧ s 98 1 = s0 98 1 ∧ s 10 9 = s0 10 9 ∧ s 98 2 = s0 98 2 ∧ s = h_up s181 99 (29 + (s0 0 (b3 + 1))) ((s0 0 (b3 + 3)) + 1)) _ (ip_99_7 Is181 (by omega) (by omega)) (Fs181.up rfl) ⟨es181.1, es181.2.1, es181.2.2.1, es181.2.2.2.1, es181.2.2.2.2.1, es181.2.2.2.2.2.1, es181.2.2.2.2.2.2.1, es181.2.2.2.2.2.2.2.1, es181.2.2.2.2.2.2.2.2.1, es181.2.2.2.2.2.2.2.2.2.1, rfl⟩ (fun s221 Is221 Fs221 (es221 : s221 64 1 = s0 64 1 ∧ s221 98 11 = s0 98 11 ∧ s221 64 4 = s0 64 4 ∧ s221 98 16 = s0 98 16 ∧ s221 90 2 = s0 90 2 ∧ s221 98 29 = s0 98 29 ∧ s221 10 8 = s0 10 8 ∧ s221 98 1 = s0 98 1 ∧ s221 10 9 = s0 10 9 ∧ s221 98 2 = s0 98 2 ∧ s221 = h_up s181 99 (29 + (s0 0 (b3 + 1))) ((s0 0 (b3 + 3)) + 1)) => ?_))
                  clear es181
                  have us221 := es221.2.2.2.2.2.2.2.2.2.2
                  have Zs221 : ∀ i, s221 0 i = s0 0 i := fun i => (h_upo us221 rfl i).trans (Zs181 i)
                  clear hz220
                  refine h_iload (pc' := 61) rfl rfl rfl ?_
                  refine h_iret rfl rfl (h_Kv ?_)
                  clear hz208
                  refine h_iret rfl rfl (h_Kv ?_)
                  clear hz183 hz185 hz187
                  refine h_pop (pc' := 677) rfl rfl rfl ?_
                  refine h_goto (pc' := 1441) rfl rfl ?_
                  exact kk _ Is221 (by first | exact d_tape.le j0 (Int.le_antisymm (by omega) (by omega)) (by omega) (fun j => (h_upo us221 rfl j).trans ((h_upo us181 rfl j))) (fun j => (h_upo us221 rfl j).trans ((h_upo us181 rfl j))) | (exfalso; omega)) (Int.le_antisymm (by omega) (by omega)) (c_R.las j2 I0 (by omega) (by omega) (Int.le_antisymm (by omega) (by omega)) (by omega) (fun j => (h_upo us221 rfl j).trans ((h_upi us181 j)))  (fun j => (h_upi us221 j).trans (congrArg (fun z => if j = (29 + (s0 0 (b3 + 1))) then ((s0 0 (b3 + 3)) + 1) else z) ((h_upo us181 rfl j))))  (fun p j n0 n1 => (h_upq us221 n1 j).trans ((h_upq us181 n0 j)))) (g_ti.e j3 ((h_upg us221 rfl).trans (h_upg us181 rfl))) (g_SH.e j4 ((h_upg us221 rfl).trans (h_upg us181 rfl)) ((h_upg us221 rfl).trans (h_upg us181 rfl)) ((h_upg us221 rfl).trans (h_upg us181 rfl)) ((h_upg us221 rfl).trans (h_upg us181 rfl)) ((h_upg us221 rfl).trans (h_upg us181 rfl)) ((h_upg us221 rfl).trans (h_upg us181 rfl))) (Int.le_antisymm (by omega) (by omega))
      · refine h_iload_n (pc' := 18) rfl rfl rfl ?_
        refine h_zlt (tg := 51) (pc' := 21) rfl rfl rfl hz6 (fun c222 => ?_) (fun c222 => ?_)
        · refine h_iload_n (pc' := 52) rfl rfl rfl ?_
          refine h_iconst (pc' := 53) (x := (Int32.ofInt 1)) rfl rfl rfl ?_
          refine h_cne (tg := 97) (pc' := 56) rfl rfl rfl hz4 ci_1 (fun c223 => ?_) (fun c223 => absurd c223 (by omega))
          refine h_iconst (pc' := 98) (x := (Int32.ofInt (-1))) rfl rfl rfl ?_
          refine h_iret rfl rfl (h_Kv ?_)
          clear hz2 hz4 hz6
          refine h_pop (pc' := 657) rfl rfl rfl ?_
          refine h_aload_n (pc' := 658) rfl rfl rfl ?_
          refine h_aload_n (pc' := 659) rfl rfl rfl ?_
          refine h_iload_n (pc' := 660) rfl rfl rfl ?_
          refine h_iconst (pc' := 661) (x := (Int32.ofInt 1)) rfl rfl rfl ?_
          refine h_iadd (pc' := 662) rfl rfl hy3 ci_1 rfl (by omega) (by omega) (fun z224 hz224 => ?_)
          refine h_iald (pc' := 663) (v := s0 0 (b3 + 1)) rfl rfl rfl hz224 (by omega) (by omega) rfl (fun z225 hz225 => ?_)
          have tz225 := h_rgv hz225
          clear hz224
          refine h_aload_n (pc' := 664) rfl rfl rfl ?_
          refine h_iload_n (pc' := 665) rfl rfl rfl ?_
          refine h_iconst (pc' := 666) (x := (Int32.ofInt 2)) rfl rfl rfl ?_
          refine h_iadd (pc' := 667) rfl rfl hy3 ci_2 rfl (by omega) (by omega) (fun z226 hz226 => ?_)
          refine h_iald (pc' := 668) (v := s0 0 (b3 + 2)) rfl rfl rfl hz226 (by omega) (by omega) rfl (fun z227 hz227 => ?_)
          have tz227 := h_rgv hz227
          clear hz226
          refine h_aload_n (pc' := 669) rfl rfl rfl ?_
          refine h_iload_n (pc' := 670) rfl rfl rfl ?_
          refine h_iconst (pc' := 671) (x := (Int32.ofInt 3)) rfl rfl rfl ?_
          refine h_iadd (pc' := 672) rfl rfl hy3 ci_3 rfl (by omega) (by omega) (fun z228 hz228 => ?_)
          refine h_iald (pc' := 673) (v := s0 0 (b3 + 3)) rfl rfl rfl hz228 (by omega) (by omega) rfl (fun z229 hz229 => ?_)
          have tz229 := h_rgv hz229
          clear hz228
          refine h_call (sp := false) (pc' := 676) (M := [(0, .ref 98), (1, .int z225), (2, .int z227), (3, .int z229)]) rfl rfl rfl rfl rfl rfl rfl rfl ?_
          refine h_iload_n (pc' := 1) rfl rfl rfl ?_
          refine h_iconst (pc' := 2) (x := (Int32.ofInt 1)) rfl rfl rfl ?_
          refine h_cne (tg := 43) (pc' := 5) rfl rfl rfl hz227 ci_1 (fun c230 => ?_) (fun c230 => absurd c230 (by omega))
          refine h_aload_n (pc' := 44) rfl rfl rfl ?_
          refine h_aload_n (pc' := 45) rfl rfl rfl ?_
          refine h_iload_n (pc' := 46) rfl rfl rfl ?_
          refine h_call (sp := false) (pc' := 49) (M := [(0, .ref 98), (1, .int z225)]) rfl rfl rfl rfl rfl rfl rfl rfl ?_
          refine h_iload_n (pc' := 1) rfl rfl rfl ?_
          refine h_i2l (pc' := 2) rfl rfl hz225 (fun z231 hz231 => ?_)
          refine h_lconst (pc' := 3) (x := (Int64.ofInt 0)) rfl rfl rfl ?_
          refine h_aload_n (pc' := 4) rfl rfl rfl ?_
          refine h_getI (pc' := 7) (v := s0 98 2) rfl rfl rfl rfl rfl rfl (fun z232 hz232 => ?_)
          have tz232 := tf_98_2 I0
          refine h_iconst (pc' := 8) (x := (Int32.ofInt 1)) rfl rfl rfl ?_
          refine h_isub (pc' := 9) rfl rfl hz232 ci_1 rfl (by omega) (by omega) (fun z233 hz233 => ?_)
          clear hz232
          refine h_i2l (pc' := 10) rfl rfl hz233 (fun z234 hz234 => ?_)
          clear hz233
          refine h_calls (pc' := 13) (M := [(0, .long z231), (2, .long (Int64.ofInt 0)), (4, .long z234)]) rfl rfl rfl rfl rfl rfl ?_
          refine h_lload_n (pc' := 1) rfl rfl rfl ?_
          refine h_lload_n (pc' := 2) rfl rfl rfl ?_
          refine h_lcmp (pc' := 3) rfl rfl hz231 cl_0 (fun z235 hz235 => ?_)
          refine h_zlt (tg := 17) (pc' := 6) rfl rfl rfl rfl (fun c236 => absurd c236 (by omega)) (fun c236 => ?_)
          replace c236 := (h_lcr hz235).2.1 c236
          clear hz235
          refine h_lload_n (pc' := 7) rfl rfl rfl ?_
          refine h_lload (pc' := 9) rfl rfl rfl ?_
          refine h_lcmp (pc' := 10) rfl rfl hz231 hz234 (fun z237 hz237 => ?_)
          refine h_zgt (tg := 17) (pc' := 13) rfl rfl rfl rfl (fun c238 => absurd c238 (by omega)) (fun c238 => ?_)
          replace c238 := (h_lcr hz237).2.2.1 c238
          clear hz237
          refine h_iconst (pc' := 14) (x := (Int32.ofInt 1)) rfl rfl rfl ?_
          refine h_goto (pc' := 18) rfl rfl ?_
          refine h_zret rfl rfl ci_1 (by omega) (h_Kv ?_)
          clear hz231 hz234
          refine h_zret rfl rfl ci_1 (by omega) (h_Kv ?_)
          refine h_zeq (tg := 72) (pc' := 52) rfl rfl rfl ci_1 (fun c239 => absurd c239 (by omega)) (fun c239 => ?_)
          refine h_iload_n (pc' := 53) rfl rfl rfl ?_
          refine h_zne (tg := 72) (pc' := 56) rfl rfl rfl hz227 (fun c240 => absurd (Int.le_antisymm (by omega) (by omega)) c240) (fun c240 => ?_)
          refine h_iload_n (pc' := 57) rfl rfl rfl ?_
          refine h_i2l (pc' := 58) rfl rfl hz229 (fun z241 hz241 => ?_)
          refine h_lconst (pc' := 59) (x := (Int64.ofInt 0)) rfl rfl rfl ?_
          refine h_ldc2 (pc' := 62) (x := (Int64.ofInt 9)) rfl rfl rfl ?_
          refine h_calls (pc' := 65) (M := [(0, .long z241), (2, .long (Int64.ofInt 0)), (4, .long (Int64.ofInt 9))]) rfl rfl rfl rfl rfl rfl ?_
          refine h_lload_n (pc' := 1) rfl rfl rfl ?_
          refine h_lload_n (pc' := 2) rfl rfl rfl ?_
          refine h_lcmp (pc' := 3) rfl rfl hz241 cl_0 (fun z242 hz242 => ?_)
          refine h_zlt (tg := 17) (pc' := 6) rfl rfl rfl rfl (fun c243 => ?_) (fun c243 => absurd c243 (by omega))
          replace c243 := (h_lcr hz242).1 c243
          clear hz242
          refine h_iconst (pc' := 18) (x := (Int32.ofInt 0)) rfl rfl rfl ?_
          refine h_zret rfl rfl ci_0 (by omega) (h_Kv ?_)
          clear hz241
          refine h_zeq (tg := 72) (pc' := 68) rfl rfl rfl ci_0 (fun c244 => ?_) (fun c244 => absurd (Int.le_antisymm (by omega) (by omega)) c244)
          refine h_iconst (pc' := 73) (x := (Int32.ofInt 0)) rfl rfl rfl ?_
          refine h_bipush (pc' := 75) (x := (Int32.ofInt 26)) rfl rfl cb_26 ?_
          refine h_iload_n (pc' := 76) rfl rfl rfl ?_
          refine h_iadd (pc' := 77) rfl rfl ci_26 hz225 rfl (by have g0 := h_rgv hz225; omega) (by have g0 := h_rgv hz225; omega) (fun z245 hz245 => ?_)
          refine h_iload_n (pc' := 78) rfl rfl rfl ?_
          refine h_iconst (pc' := 79) (x := (Int32.ofInt 0)) rfl rfl rfl ?_
          refine h_call (sp := false) (pc' := 82) (M := [(0, .ref 98), (1, .int (Int32.ofInt 0)), (2, .int z245), (3, .int z229), (4, .int (Int32.ofInt 0))]) rfl rfl rfl rfl rfl rfl rfl rfl ?_
          refine h_iload_n (pc' := 1) rfl rfl rfl ?_
          refine h_zne (tg := 6) (pc' := 4) rfl rfl rfl ci_0 (fun c246 => absurd (Int.le_antisymm (by omega) (by omega)) c246) (fun c246 => ?_)
          refine h_iconst (pc' := 5) (x := (Int32.ofInt (-1))) rfl rfl rfl ?_
          refine h_iret rfl rfl (h_Kv ?_)
          clear hz245
          refine h_iret rfl rfl (h_Kv ?_)
          clear hz225 hz227 hz229
          refine h_pop (pc' := 677) rfl rfl rfl ?_
          refine h_goto (pc' := 1441) rfl rfl ?_
          exact kk _ I0 (by first | exact d_tape.le j0 (Int.le_antisymm (by omega) (by omega)) (by omega) (fun j => rfl) (fun j => rfl) | (exfalso; omega)) (Int.le_antisymm (by omega) (by omega)) j2 (g_ti.e j3 rfl) (g_SH.e j4 rfl rfl rfl rfl rfl rfl) (Int.le_antisymm (by omega) (by omega))
        · refine h_iload_n (pc' := 22) rfl rfl rfl ?_
          refine h_bipush (pc' := 24) (x := (Int32.ofInt 9)) rfl rfl cb_9 ?_
          refine h_cgt (tg := 51) (pc' := 27) rfl rfl rfl hz6 ci_9 (fun c247 => ?_) (fun c247 => ?_)
          · refine h_iload_n (pc' := 52) rfl rfl rfl ?_
            refine h_iconst (pc' := 53) (x := (Int32.ofInt 1)) rfl rfl rfl ?_
            refine h_cne (tg := 97) (pc' := 56) rfl rfl rfl hz4 ci_1 (fun c248 => ?_) (fun c248 => absurd c248 (by omega))
            refine h_iconst (pc' := 98) (x := (Int32.ofInt (-1))) rfl rfl rfl ?_
            refine h_iret rfl rfl (h_Kv ?_)
            clear hz2 hz4 hz6
            refine h_pop (pc' := 657) rfl rfl rfl ?_
            refine h_aload_n (pc' := 658) rfl rfl rfl ?_
            refine h_aload_n (pc' := 659) rfl rfl rfl ?_
            refine h_iload_n (pc' := 660) rfl rfl rfl ?_
            refine h_iconst (pc' := 661) (x := (Int32.ofInt 1)) rfl rfl rfl ?_
            refine h_iadd (pc' := 662) rfl rfl hy3 ci_1 rfl (by omega) (by omega) (fun z249 hz249 => ?_)
            refine h_iald (pc' := 663) (v := s0 0 (b3 + 1)) rfl rfl rfl hz249 (by omega) (by omega) rfl (fun z250 hz250 => ?_)
            have tz250 := h_rgv hz250
            clear hz249
            refine h_aload_n (pc' := 664) rfl rfl rfl ?_
            refine h_iload_n (pc' := 665) rfl rfl rfl ?_
            refine h_iconst (pc' := 666) (x := (Int32.ofInt 2)) rfl rfl rfl ?_
            refine h_iadd (pc' := 667) rfl rfl hy3 ci_2 rfl (by omega) (by omega) (fun z251 hz251 => ?_)
            refine h_iald (pc' := 668) (v := s0 0 (b3 + 2)) rfl rfl rfl hz251 (by omega) (by omega) rfl (fun z252 hz252 => ?_)
            have tz252 := h_rgv hz252
            clear hz251
            refine h_aload_n (pc' := 669) rfl rfl rfl ?_
            refine h_iload_n (pc' := 670) rfl rfl rfl ?_
            refine h_iconst (pc' := 671) (x := (Int32.ofInt 3)) rfl rfl rfl ?_
            refine h_iadd (pc' := 672) rfl rfl hy3 ci_3 rfl (by omega) (by omega) (fun z253 hz253 => ?_)
            refine h_iald (pc' := 673) (v := s0 0 (b3 + 3)) rfl rfl rfl hz253 (by omega) (by omega) rfl (fun z254 hz254 => ?_)
            have tz254 := h_rgv hz254
            clear hz253
            refine h_call (sp := false) (pc' := 676) (M := [(0, .ref 98), (1, .int z250), (2, .int z252), (3, .int z254)]) rfl rfl rfl rfl rfl rfl rfl rfl ?_
            refine h_iload_n (pc' := 1) rfl rfl rfl ?_
            refine h_iconst (pc' := 2) (x := (Int32.ofInt 1)) rfl rfl rfl ?_
            refine h_cne (tg := 43) (pc' := 5) rfl rfl rfl hz252 ci_1 (fun c255 => ?_) (fun c255 => absurd c255 (by omega))
            refine h_aload_n (pc' := 44) rfl rfl rfl ?_
            refine h_aload_n (pc' := 45) rfl rfl rfl ?_
            refine h_iload_n (pc' := 46) rfl rfl rfl ?_
            refine h_call (sp := false) (pc' := 49) (M := [(0, .ref 98), (1, .int z250)]) rfl rfl rfl rfl rfl rfl rfl rfl ?_
            refine h_iload_n (pc' := 1) rfl rfl rfl ?_
            refine h_i2l (pc' := 2) rfl rfl hz250 (fun z256 hz256 => ?_)
            refine h_lconst (pc' := 3) (x := (Int64.ofInt 0)) rfl rfl rfl ?_
            refine h_aload_n (pc' := 4) rfl rfl rfl ?_
            refine h_getI (pc' := 7) (v := s0 98 2) rfl rfl rfl rfl rfl rfl (fun z257 hz257 => ?_)
            have tz257 := tf_98_2 I0
            refine h_iconst (pc' := 8) (x := (Int32.ofInt 1)) rfl rfl rfl ?_
            refine h_isub (pc' := 9) rfl rfl hz257 ci_1 rfl (by omega) (by omega) (fun z258 hz258 => ?_)
            clear hz257
            refine h_i2l (pc' := 10) rfl rfl hz258 (fun z259 hz259 => ?_)
            clear hz258
            refine h_calls (pc' := 13) (M := [(0, .long z256), (2, .long (Int64.ofInt 0)), (4, .long z259)]) rfl rfl rfl rfl rfl rfl ?_
            refine h_lload_n (pc' := 1) rfl rfl rfl ?_
            refine h_lload_n (pc' := 2) rfl rfl rfl ?_
            refine h_lcmp (pc' := 3) rfl rfl hz256 cl_0 (fun z260 hz260 => ?_)
            refine h_zlt (tg := 17) (pc' := 6) rfl rfl rfl rfl (fun c261 => absurd c261 (by omega)) (fun c261 => ?_)
            replace c261 := (h_lcr hz260).2.1 c261
            clear hz260
            refine h_lload_n (pc' := 7) rfl rfl rfl ?_
            refine h_lload (pc' := 9) rfl rfl rfl ?_
            refine h_lcmp (pc' := 10) rfl rfl hz256 hz259 (fun z262 hz262 => ?_)
            refine h_zgt (tg := 17) (pc' := 13) rfl rfl rfl rfl (fun c263 => absurd c263 (by omega)) (fun c263 => ?_)
            replace c263 := (h_lcr hz262).2.2.1 c263
            clear hz262
            refine h_iconst (pc' := 14) (x := (Int32.ofInt 1)) rfl rfl rfl ?_
            refine h_goto (pc' := 18) rfl rfl ?_
            refine h_zret rfl rfl ci_1 (by omega) (h_Kv ?_)
            clear hz256 hz259
            refine h_zret rfl rfl ci_1 (by omega) (h_Kv ?_)
            refine h_zeq (tg := 72) (pc' := 52) rfl rfl rfl ci_1 (fun c264 => absurd c264 (by omega)) (fun c264 => ?_)
            refine h_iload_n (pc' := 53) rfl rfl rfl ?_
            refine h_zne (tg := 72) (pc' := 56) rfl rfl rfl hz252 (fun c265 => absurd (Int.le_antisymm (by omega) (by omega)) c265) (fun c265 => ?_)
            refine h_iload_n (pc' := 57) rfl rfl rfl ?_
            refine h_i2l (pc' := 58) rfl rfl hz254 (fun z266 hz266 => ?_)
            refine h_lconst (pc' := 59) (x := (Int64.ofInt 0)) rfl rfl rfl ?_
            refine h_ldc2 (pc' := 62) (x := (Int64.ofInt 9)) rfl rfl rfl ?_
            refine h_calls (pc' := 65) (M := [(0, .long z266), (2, .long (Int64.ofInt 0)), (4, .long (Int64.ofInt 9))]) rfl rfl rfl rfl rfl rfl ?_
            refine h_lload_n (pc' := 1) rfl rfl rfl ?_
            refine h_lload_n (pc' := 2) rfl rfl rfl ?_
            refine h_lcmp (pc' := 3) rfl rfl hz266 cl_0 (fun z267 hz267 => ?_)
            refine h_zlt (tg := 17) (pc' := 6) rfl rfl rfl rfl (fun c268 => absurd c268 (by omega)) (fun c268 => ?_)
            replace c268 := (h_lcr hz267).2.1 c268
            clear hz267
            refine h_lload_n (pc' := 7) rfl rfl rfl ?_
            refine h_lload (pc' := 9) rfl rfl rfl ?_
            refine h_lcmp (pc' := 10) rfl rfl hz266 cl_9 (fun z269 hz269 => ?_)
            refine h_zgt (tg := 17) (pc' := 13) rfl rfl rfl rfl (fun c270 => ?_) (fun c270 => absurd c270 (by omega))
            replace c270 := (h_lcr hz269).2.2.2.1 c270
            clear hz269
            refine h_iconst (pc' := 18) (x := (Int32.ofInt 0)) rfl rfl rfl ?_
            refine h_zret rfl rfl ci_0 (by omega) (h_Kv ?_)
            clear hz266
            refine h_zeq (tg := 72) (pc' := 68) rfl rfl rfl ci_0 (fun c271 => ?_) (fun c271 => absurd (Int.le_antisymm (by omega) (by omega)) c271)
            refine h_iconst (pc' := 73) (x := (Int32.ofInt 0)) rfl rfl rfl ?_
            refine h_bipush (pc' := 75) (x := (Int32.ofInt 26)) rfl rfl cb_26 ?_
            refine h_iload_n (pc' := 76) rfl rfl rfl ?_
            refine h_iadd (pc' := 77) rfl rfl ci_26 hz250 rfl (by have g0 := h_rgv hz250; omega) (by have g0 := h_rgv hz250; omega) (fun z272 hz272 => ?_)
            refine h_iload_n (pc' := 78) rfl rfl rfl ?_
            refine h_iconst (pc' := 79) (x := (Int32.ofInt 0)) rfl rfl rfl ?_
            refine h_call (sp := false) (pc' := 82) (M := [(0, .ref 98), (1, .int (Int32.ofInt 0)), (2, .int z272), (3, .int z254), (4, .int (Int32.ofInt 0))]) rfl rfl rfl rfl rfl rfl rfl rfl ?_
            refine h_iload_n (pc' := 1) rfl rfl rfl ?_
            refine h_zne (tg := 6) (pc' := 4) rfl rfl rfl ci_0 (fun c273 => absurd (Int.le_antisymm (by omega) (by omega)) c273) (fun c273 => ?_)
            refine h_iconst (pc' := 5) (x := (Int32.ofInt (-1))) rfl rfl rfl ?_
            refine h_iret rfl rfl (h_Kv ?_)
            clear hz272
            refine h_iret rfl rfl (h_Kv ?_)
            clear hz250 hz252 hz254
            refine h_pop (pc' := 677) rfl rfl rfl ?_
            refine h_goto (pc' := 1441) rfl rfl ?_
            exact kk _ I0 (by first | exact d_tape.le j0 (Int.le_antisymm (by omega) (by omega)) (by omega) (fun j => rfl) (fun j => rfl) | (exfalso; omega)) (Int.le_antisymm (by omega) (by omega)) j2 (g_ti.e j3 rfl) (g_SH.e j4 rfl rfl rfl rfl rfl rfl) (Int.le_antisymm (by omega) (by omega))
          · refine h_aload_n (pc' := 28) rfl rfl rfl ?_
            refine h_getR (pc' := 31) rfl rfl rfl rfl rfl ?_
            refine h_getR (pc' := 34) rfl rfl rfl rfl rfl ?_
            refine h_iload_n (pc' := 35) rfl rfl rfl ?_
            refine h_iald (pc' := 36) (v := s0 19 (s0 0 (b3 + 1))) rfl rfl rfl hz2 (by omega) (by omega) rfl (fun z274 hz274 => ?_)
            have tz274 := ty_19 I0 (s0 0 (b3 + 1))
            refine h_istore (pc' := 38) (M := [(4, .int z274), (0, .ref 9), (1, .int z2), (2, .int z4), (3, .int z6)]) rfl rfl rfl rfl ?_
            refine h_aload_n (pc' := 39) rfl rfl rfl ?_
            refine h_getR (pc' := 42) rfl rfl rfl rfl rfl ?_
            refine h_getR (pc' := 45) rfl rfl rfl rfl rfl ?_
            refine h_iload_n (pc' := 46) rfl rfl rfl ?_
            refine h_iload_n (pc' := 47) rfl rfl rfl ?_
            refine h_iast (pc' := 48) rfl rfl rfl rfl hz2 (by omega) (by omega) hz6 (h_fgt (E := fun s => s 64 1 = s0 64 1 ∧ s 98 11 = s0 98 11 ∧ s 64 4 = s0 64 4 ∧ s 98 16 = s0 98 16 ∧ s 90 2 = s0 90 2 ∧ s 98 29 = s0 98 29 ∧ s 10 8 = s0 10 8 ∧ s 98 1 = s0 98 1 ∧ s 10 9 = s0 10 9 ∧ s 98 2 = s0 98 2 ∧ s = h_up s0 19 (s0 0 (b3 + 1)) (s0 0 (b3 + 3))) _ (in_19 I0 (by omega)) (F0_.up rfl) ⟨rfl, rfl, rfl, rfl, rfl, rfl, rfl, rfl, rfl, rfl, rfl⟩ (fun s275 Is275 Fs275 (es275 : s275 64 1 = s0 64 1 ∧ s275 98 11 = s0 98 11 ∧ s275 64 4 = s0 64 4 ∧ s275 98 16 = s0 98 16 ∧ s275 90 2 = s0 90 2 ∧ s275 98 29 = s0 98 29 ∧ s275 10 8 = s0 10 8 ∧ s275 98 1 = s0 98 1 ∧ s275 10 9 = s0 10 9 ∧ s275 98 2 = s0 98 2 ∧ s275 = h_up s0 19 (s0 0 (b3 + 1)) (s0 0 (b3 + 3))) => ?_))
            have us275 := es275.2.2.2.2.2.2.2.2.2.2
            have Zs275 : ∀ i, s275 0 i = s0 0 i := fun i => (h_upo us275 rfl i).trans rfl
            refine h_iload (pc' := 50) rfl rfl rfl ?_
            refine h_iret rfl rfl (h_Kv ?_)
            clear hz2 hz4 hz6
            refine h_pop (pc' := 657) rfl rfl rfl ?_
            clear hz274
            refine h_aload_n (pc' := 658) rfl rfl rfl ?_
            refine h_aload_n (pc' := 659) rfl rfl rfl ?_
            refine h_iload_n (pc' := 660) rfl rfl rfl ?_
            refine h_iconst (pc' := 661) (x := (Int32.ofInt 1)) rfl rfl rfl ?_
            refine h_iadd (pc' := 662) rfl rfl hy3 ci_1 rfl (by omega) (by omega) (fun z276 hz276 => ?_)
            refine h_iald (pc' := 663) (v := s0 0 (b3 + 1)) rfl rfl rfl hz276 (by omega) (by omega) (Zs275 _) (fun z277 hz277 => ?_)
            have tz277 := h_rgv hz277
            clear hz276
            refine h_aload_n (pc' := 664) rfl rfl rfl ?_
            refine h_iload_n (pc' := 665) rfl rfl rfl ?_
            refine h_iconst (pc' := 666) (x := (Int32.ofInt 2)) rfl rfl rfl ?_
            refine h_iadd (pc' := 667) rfl rfl hy3 ci_2 rfl (by omega) (by omega) (fun z278 hz278 => ?_)
            refine h_iald (pc' := 668) (v := s0 0 (b3 + 2)) rfl rfl rfl hz278 (by omega) (by omega) (Zs275 _) (fun z279 hz279 => ?_)
            have tz279 := h_rgv hz279
            clear hz278
            refine h_aload_n (pc' := 669) rfl rfl rfl ?_
            refine h_iload_n (pc' := 670) rfl rfl rfl ?_
            refine h_iconst (pc' := 671) (x := (Int32.ofInt 3)) rfl rfl rfl ?_
            refine h_iadd (pc' := 672) rfl rfl hy3 ci_3 rfl (by omega) (by omega) (fun z280 hz280 => ?_)
            refine h_iald (pc' := 673) (v := s0 0 (b3 + 3)) rfl rfl rfl hz280 (by omega) (by omega) (Zs275 _) (fun z281 hz281 => ?_)
            have tz281 := h_rgv hz281
            clear hz280
            refine h_call (sp := false) (pc' := 676) (M := [(0, .ref 98), (1, .int z277), (2, .int z279), (3, .int z281)]) rfl rfl rfl rfl rfl rfl rfl rfl ?_
            refine h_iload_n (pc' := 1) rfl rfl rfl ?_
            refine h_iconst (pc' := 2) (x := (Int32.ofInt 1)) rfl rfl rfl ?_
            refine h_cne (tg := 43) (pc' := 5) rfl rfl rfl hz279 ci_1 (fun c282 => ?_) (fun c282 => absurd c282 (by omega))
            refine h_aload_n (pc' := 44) rfl rfl rfl ?_
            refine h_aload_n (pc' := 45) rfl rfl rfl ?_
            refine h_iload_n (pc' := 46) rfl rfl rfl ?_
            refine h_call (sp := false) (pc' := 49) (M := [(0, .ref 98), (1, .int z277)]) rfl rfl rfl rfl rfl rfl rfl rfl ?_
            refine h_iload_n (pc' := 1) rfl rfl rfl ?_
            refine h_i2l (pc' := 2) rfl rfl hz277 (fun z283 hz283 => ?_)
            refine h_lconst (pc' := 3) (x := (Int64.ofInt 0)) rfl rfl rfl ?_
            refine h_aload_n (pc' := 4) rfl rfl rfl ?_
            refine h_getI (pc' := 7) (v := s0 98 2) rfl rfl rfl rfl rfl es275.2.2.2.2.2.2.2.2.2.1 (fun z284 hz284 => ?_)
            have tz284 := tf_98_2 I0
            refine h_iconst (pc' := 8) (x := (Int32.ofInt 1)) rfl rfl rfl ?_
            refine h_isub (pc' := 9) rfl rfl hz284 ci_1 rfl (by omega) (by omega) (fun z285 hz285 => ?_)
            clear hz284
            refine h_i2l (pc' := 10) rfl rfl hz285 (fun z286 hz286 => ?_)
            clear hz285
            refine h_calls (pc' := 13) (M := [(0, .long z283), (2, .long (Int64.ofInt 0)), (4, .long z286)]) rfl rfl rfl rfl rfl rfl ?_
            refine h_lload_n (pc' := 1) rfl rfl rfl ?_
            refine h_lload_n (pc' := 2) rfl rfl rfl ?_
            refine h_lcmp (pc' := 3) rfl rfl hz283 cl_0 (fun z287 hz287 => ?_)
            refine h_zlt (tg := 17) (pc' := 6) rfl rfl rfl rfl (fun c288 => absurd c288 (by omega)) (fun c288 => ?_)
            replace c288 := (h_lcr hz287).2.1 c288
            clear hz287
            refine h_lload_n (pc' := 7) rfl rfl rfl ?_
            refine h_lload (pc' := 9) rfl rfl rfl ?_
            refine h_lcmp (pc' := 10) rfl rfl hz283 hz286 (fun z289 hz289 => ?_)
            refine h_zgt (tg := 17) (pc' := 13) rfl rfl rfl rfl (fun c290 => absurd c290 (by omega)) (fun c290 => ?_)
            replace c290 := (h_lcr hz289).2.2.1 c290
            clear hz289
            refine h_iconst (pc' := 14) (x := (Int32.ofInt 1)) rfl rfl rfl ?_
            refine h_goto (pc' := 18) rfl rfl ?_
            refine h_zret rfl rfl ci_1 (by omega) (h_Kv ?_)
            clear hz283 hz286
            refine h_zret rfl rfl ci_1 (by omega) (h_Kv ?_)
            refine h_zeq (tg := 72) (pc' := 52) rfl rfl rfl ci_1 (fun c291 => absurd c291 (by omega)) (fun c291 => ?_)
            refine h_iload_n (pc' := 53) rfl rfl rfl ?_
            refine h_zne (tg := 72) (pc' := 56) rfl rfl rfl hz279 (fun c292 => absurd (Int.le_antisymm (by omega) (by omega)) c292) (fun c292 => ?_)
            refine h_iload_n (pc' := 57) rfl rfl rfl ?_
            refine h_i2l (pc' := 58) rfl rfl hz281 (fun z293 hz293 => ?_)
            refine h_lconst (pc' := 59) (x := (Int64.ofInt 0)) rfl rfl rfl ?_
            refine h_ldc2 (pc' := 62) (x := (Int64.ofInt 9)) rfl rfl rfl ?_
            refine h_calls (pc' := 65) (M := [(0, .long z293), (2, .long (Int64.ofInt 0)), (4, .long (Int64.ofInt 9))]) rfl rfl rfl rfl rfl rfl ?_
            refine h_lload_n (pc' := 1) rfl rfl rfl ?_
            refine h_lload_n (pc' := 2) rfl rfl rfl ?_
            refine h_lcmp (pc' := 3) rfl rfl hz293 cl_0 (fun z294 hz294 => ?_)
            refine h_zlt (tg := 17) (pc' := 6) rfl rfl rfl rfl (fun c295 => absurd c295 (by omega)) (fun c295 => ?_)
            replace c295 := (h_lcr hz294).2.1 c295
            clear hz294
            refine h_lload_n (pc' := 7) rfl rfl rfl ?_
            refine h_lload (pc' := 9) rfl rfl rfl ?_
            refine h_lcmp (pc' := 10) rfl rfl hz293 cl_9 (fun z296 hz296 => ?_)
            refine h_zgt (tg := 17) (pc' := 13) rfl rfl rfl rfl (fun c297 => absurd c297 (by omega)) (fun c297 => ?_)
            replace c297 := (h_lcr hz296).2.2.1 c297
            clear hz296
            refine h_iconst (pc' := 14) (x := (Int32.ofInt 1)) rfl rfl rfl ?_
            refine h_goto (pc' := 18) rfl rfl ?_
            refine h_zret rfl rfl ci_1 (by omega) (h_Kv ?_)
            clear hz293
            refine h_zeq (tg := 72) (pc' := 68) rfl rfl rfl ci_1 (fun c298 => absurd c298 (by omega)) (fun c298 => ?_)
            refine h_iconst (pc' := 69) (x := (Int32.ofInt 1)) rfl rfl rfl ?_
            refine h_goto (pc' := 73) rfl rfl ?_
            refine h_bipush (pc' := 75) (x := (Int32.ofInt 26)) rfl rfl cb_26 ?_
            refine h_iload_n (pc' := 76) rfl rfl rfl ?_
            refine h_iadd (pc' := 77) rfl rfl ci_26 hz277 rfl (by have g0 := h_rgv hz277; omega) (by have g0 := h_rgv hz277; omega) (fun z299 hz299 => ?_)
            refine h_iload_n (pc' := 78) rfl rfl rfl ?_
            refine h_iconst (pc' := 79) (x := (Int32.ofInt 0)) rfl rfl rfl ?_
            refine h_call (sp := false) (pc' := 82) (M := [(0, .ref 98), (1, .int (Int32.ofInt 1)), (2, .int z299), (3, .int z281), (4, .int (Int32.ofInt 0))]) rfl rfl rfl rfl rfl rfl rfl rfl ?_
            refine h_iload_n (pc' := 1) rfl rfl rfl ?_
            refine h_zne (tg := 6) (pc' := 4) rfl rfl rfl ci_1 (fun c300 => ?_) (fun c300 => absurd c300 (by omega))
            refine h_iload (pc' := 8) rfl rfl rfl ?_
            refine h_zne (tg := 20) (pc' := 11) rfl rfl rfl ci_0 (fun c301 => absurd (Int.le_antisymm (by omega) (by omega)) c301) (fun c301 => ?_)
            refine h_aload_n (pc' := 12) rfl rfl rfl ?_
            refine h_getR (pc' := 15) rfl rfl rfl rfl rfl ?_
            refine h_iload_n (pc' := 16) rfl rfl rfl ?_
            refine h_iald (pc' := 17) (v := s275 99 (26 + (s0 0 (b3 + 1)))) rfl rfl rfl hz299 (by omega) (by omega) rfl (fun z302 hz302 => ?_)
            have tz302 := ty_99_6 Is275 (26 + (s0 0 (b3 + 1))) (by omega)
            refine h_goto (pc' := 29) rfl rfl ?_
            refine h_istore (pc' := 31) (M := [(5, .int z302), (0, .ref 98), (1, .int (Int32.ofInt 1)), (2, .int z299), (3, .int z281), (4, .int (Int32.ofInt 0))]) rfl rfl rfl rfl ?_
            refine h_aload_n (pc' := 32) rfl rfl rfl ?_
            refine h_getR (pc' := 35) rfl rfl rfl rfl rfl ?_
            refine h_iload_n (pc' := 36) rfl rfl rfl ?_
            refine h_iload (pc' := 38) rfl rfl rfl ?_
            refine h_zne (tg := 45) (pc' := 41) rfl rfl rfl ci_0 (fun c303 => absurd (Int.le_antisymm (by omega) (by omega)) c303) (fun c303 => ?_)
            refine h_iload_n (pc' := 42) rfl rfl rfl ?_
            refine h_goto (pc' := 58) rfl rfl ?_
            refine h_iast (pc' := 59) rfl rfl rfl rfl hz299 (by omega) (by omega) hz281 (h_fgt (E := fun s => s 64 1 = s0 64 1 ∧ s 98 11 = s0 98 11 ∧ s 64 4 = s0 64 4 ∧ s 98 16 = s0 98 16 ∧ s 90 2 = s0 90 2 ∧ s 98 29 = s0 98 29 ∧ s 10 8 = s0 10 8 ∧ s 98 1 = s0 98 1 ∧ s 10 9 = s0 10 9 ∧ s 98 2 = s0 98 2 ∧ s = h_up s275 99 (26 + (s0 0 (b3 + 1))) (s0 0 (b3 + 3))) _ (ip_99_6 Is275 (by omega) (by omega)) (Fs275.up rfl) ⟨es275.1, es275.2.1, es275.2.2.1, es275.2.2.2.1, es275.2.2.2.2.1, es275.2.2.2.2.2.1, es275.2.2.2.2.2.2.1, es275.2.2.2.2.2.2.2.1, es275.2.2.2.2.2.2.2.2.1, es275.2.2.2.2.2.2.2.2.2.1, rfl⟩ (fun s304 Is304 Fs304 (es304 : s304 64 1 = s0 64 1 ∧ s304 98 11 = s0 98 11 ∧ s304 64 4 = s0 64 4 ∧ s304 98 16 = s0 98 16 ∧ s304 90 2 = s0 90 2 ∧ s304 98 29 = s0 98 29 ∧ s304 10 8 = s0 10 8 ∧ s304 98 1 = s0 98 1 ∧ s304 10 9 = s0 10 9 ∧ s304 98 2 = s0 98 2 ∧ s304 = h_up s275 99 (26 + (s0 0 (b3 + 1))) (s0 0 (b3 + 3))) => ?_))
            clear es275
            have us304 := es304.2.2.2.2.2.2.2.2.2.2
            have Zs304 : ∀ i, s304 0 i = s0 0 i := fun i => (h_upo us304 rfl i).trans (Zs275 i)
            refine h_iload (pc' := 61) rfl rfl rfl ?_
            refine h_iret rfl rfl (h_Kv ?_)
            clear hz299
            refine h_iret rfl rfl (h_Kv ?_)
            clear hz277 hz279 hz281
            refine h_pop (pc' := 677) rfl rfl rfl ?_
            clear hz302
            refine h_goto (pc' := 1441) rfl rfl ?_
            exact kk _ Is304 (by first | exact d_tape.le j0 (Int.le_antisymm (by omega) (by omega)) (by omega) (fun j => (h_upo us304 rfl j).trans ((h_upo us275 rfl j))) (fun j => (h_upo us304 rfl j).trans ((h_upo us275 rfl j))) | (exfalso; omega)) (Int.le_antisymm (by omega) (by omega)) (c_R.rea j2 I0 (by omega) (by omega) (Int.le_antisymm (by omega) (by omega)) (fun j => (h_upo us304 rfl j).trans ((h_upi us275 j)))  (fun j => (h_upi us304 j).trans (congrArg (fun z => if j = (26 + (s0 0 (b3 + 1))) then (s0 0 (b3 + 3)) else z) ((h_upo us275 rfl j))))  (fun p j n0 n1 => (h_upq us304 n1 j).trans ((h_upq us275 n0 j)))) (g_ti.e j3 ((h_upg us304 rfl).trans (h_upg us275 rfl))) (g_SH.e j4 ((h_upg us304 rfl).trans (h_upg us275 rfl)) ((h_upg us304 rfl).trans (h_upg us275 rfl)) ((h_upg us304 rfl).trans (h_upg us275 rfl)) ((h_upg us304 rfl).trans (h_upg us275 rfl)) ((h_upg us304 rfl).trans (h_upg us275 rfl)) ((h_upg us304 rfl).trans (h_upg us275 rfl))) (Int.le_antisymm (by omega) (by omega))
