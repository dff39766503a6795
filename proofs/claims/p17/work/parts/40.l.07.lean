set_option maxHeartbeats 100000000 in
theorem g_case_637 {ns : Nat} (hns : ns ≤ 320) (s0 : h_S) (I0 : h_I s0) (j0 : d_tape s0 s0) (j1 : s0 64 4 = s0 98 16) (j2 : c_R true s0) (j3 : g_ti s0) (j4 : g_SH s0) (y3 : Int32) (b3 : Int) (hy3 : y3.toInt = b3) (hr : 0 ≤ b3 ∧ b3 + 5 ≤ ns) {Q : Option Value → h_S → Prop} (kk : ∀ τ, h_I τ → (d_tape τ τ) → (τ 64 4 = τ 98 16) → (c_R true τ) → (g_ti τ) → (g_SH τ) → h_T g_P (g_Y ns) 225 1441 [(0, .ref 0), (1, .ref 9), (2, .ref 98), (3, .int y3)] [] τ Q) : h_T g_P (g_Y ns) 225 637 [(0, .ref 0), (1, .ref 9), (2, .ref 98), (3, .int y3)] [] s0 Q := by
  have F0_ : h_F (fun _ _ => true) s0 s0 := h_F.rf
  have j0_ := j0.2
  have i0 := tf_64_1 I0
  have i1 := tf_98_11 I0
  have i2 := tf_64_4 I0
  have i3 := tf_98_16 I0
  have i4 := tf_10_8 I0
  have i5 := tf_98_1 I0
  have i6 := tf_10_9 I0
  have i7 := tf_98_2 I0
  have j2_ := j2.sz
  refine h_aload_n (pc' := 638) rfl rfl rfl ?_
  refine h_aload_n (pc' := 639) rfl rfl rfl ?_
  refine h_iload_n (pc' := 640) rfl rfl rfl ?_
  refine h_iconst (pc' := 641) (x := (Int32.ofInt 1)) rfl rfl rfl ?_
  refine h_iadd (pc' := 642) rfl rfl hy3 ci_1 rfl (by omega) (by omega) (fun z1 hz1 => ?_)
  refine h_iald (pc' := 643) (v := s0 0 (b3 + 1)) rfl rfl rfl hz1 (by omega) (by omega) rfl (fun z2 hz2 => ?_)
  have tz2 := h_rgv hz2
  clear hz1
  refine h_aload_n (pc' := 644) rfl rfl rfl ?_
  refine h_iload_n (pc' := 645) rfl rfl rfl ?_
  refine h_iconst (pc' := 646) (x := (Int32.ofInt 2)) rfl rfl rfl ?_
  refine h_iadd (pc' := 647) rfl rfl hy3 ci_2 rfl (by omega) (by omega) (fun z3 hz3 => ?_)
  refine h_iald (pc' := 648) (v := s0 0 (b3 + 2)) rfl rfl rfl hz3 (by omega) (by omega) rfl (fun z4 hz4 => ?_)
  have tz4 := h_rgv hz4
  clear hz3
  refine h_aload_n (pc' := 649) rfl rfl rfl ?_
  refine h_iload_n (pc' := 650) rfl rfl rfl ?_
  refine h_iconst (pc' := 651) (x := (Int32.ofInt 3)) rfl rfl rfl ?_
  refine h_iadd (pc' := 652) rfl rfl hy3 ci_3 rfl (by omega) (by omega) (fun z5 hz5 => ?_)
  refine h_iald (pc' := 653) (v := s0 0 (b3 + 3)) rfl rfl rfl hz5 (by omega) (by omega) rfl (fun z6 hz6 => ?_)
  have tz6 := h_rgv hz6
  clear hz5
  refine h_call (sp := false) (pc' := 656) (M := [(0, .ref 9), (1, .int z2), (2, .int z4), (3, .int z6)]) rfl rfl rfl rfl rfl rfl rfl rfl ?_
  refine h_aload_n (pc' := 1) rfl rfl rfl ?_
  refine h_getR (pc' := 4) rfl rfl rfl rfl rfl ?_
  refine h_iload_n (pc' := 5) rfl rfl rfl ?_
  refine h_call (sp := false) (pc' := 8) (M := [(0, .ref 10), (1, .int z2)]) rfl rfl rfl rfl rfl rfl rfl rfl ?_
  refine h_iload_n (pc' := 1) rfl rfl rfl ?_
  refine h_zlt (tg := 16) (pc' := 4) rfl rfl rfl hz2 (fun c7 => ?_) (fun c7 => ?_)
  · refine h_iconst (pc' := 17) (x := (Int32.ofInt 0)) rfl rfl rfl ?_
    refine h_zret rfl rfl ci_0 (by omega) (h_Kv ?_)
    refine h_zne (tg := 13) (pc' := 11) rfl rfl rfl ci_0 (fun c8 => absurd (Int.le_antisymm (by omega) (by omega)) c8) (fun c8 => ?_)
    refine h_iconst (pc' := 12) (x := (Int32.ofInt (-1))) rfl rfl rfl ?_
    refine h_iret rfl rfl (h_Kv ?_)
    clear hz2 hz4 hz6
    refine h_aload_n (pc' := 657) rfl rfl rfl ?_
    refine h_aload_n (pc' := 658) rfl rfl rfl ?_
    refine h_iload_n (pc' := 659) rfl rfl rfl ?_
    refine h_iconst (pc' := 660) (x := (Int32.ofInt 1)) rfl rfl rfl ?_
    refine h_iadd (pc' := 661) rfl rfl hy3 ci_1 rfl (by omega) (by omega) (fun z9 hz9 => ?_)
    refine h_iald (pc' := 662) (v := s0 0 (b3 + 1)) rfl rfl rfl hz9 (by omega) (by omega) rfl (fun z10 hz10 => ?_)
    have tz10 := h_rgv hz10
    clear hz9
    refine h_aload_n (pc' := 663) rfl rfl rfl ?_
    refine h_iload_n (pc' := 664) rfl rfl rfl ?_
    refine h_iconst (pc' := 665) (x := (Int32.ofInt 2)) rfl rfl rfl ?_
    refine h_iadd (pc' := 666) rfl rfl hy3 ci_2 rfl (by omega) (by omega) (fun z11 hz11 => ?_)
    refine h_iald (pc' := 667) (v := s0 0 (b3 + 2)) rfl rfl rfl hz11 (by omega) (by omega) rfl (fun z12 hz12 => ?_)
    have tz12 := h_rgv hz12
    clear hz11
    refine h_aload_n (pc' := 668) rfl rfl rfl ?_
    refine h_iload_n (pc' := 669) rfl rfl rfl ?_
    refine h_iconst (pc' := 670) (x := (Int32.ofInt 3)) rfl rfl rfl ?_
    refine h_iadd (pc' := 671) rfl rfl hy3 ci_3 rfl (by omega) (by omega) (fun z13 hz13 => ?_)
    refine h_iald (pc' := 672) (v := s0 0 (b3 + 3)) rfl rfl rfl hz13 (by omega) (by omega) rfl (fun z14 hz14 => ?_)
    have tz14 := h_rgv hz14
    clear hz13
    refine h_call (sp := false) (pc' := 675) (M := [(0, .ref 98), (1, .int z10), (2, .int z12), (3, .int z14)]) rfl rfl rfl rfl rfl rfl rfl rfl ?_
    refine h_iload_n (pc' := 1) rfl rfl rfl ?_
    refine h_iconst (pc' := 2) (x := (Int32.ofInt 1)) rfl rfl rfl ?_
    refine h_cne (tg := 43) (pc' := 5) rfl rfl rfl hz12 ci_1 (fun c15 => ?_) (fun c15 => ?_)
    · refine h_aload_n (pc' := 44) rfl rfl rfl ?_
      refine h_aload_n (pc' := 45) rfl rfl rfl ?_
      refine h_iload_n (pc' := 46) rfl rfl rfl ?_
      refine h_call (sp := false) (pc' := 49) (M := [(0, .ref 98), (1, .int z10)]) rfl rfl rfl rfl rfl rfl rfl rfl ?_
      refine h_iload_n (pc' := 1) rfl rfl rfl ?_
      refine h_i2l (pc' := 2) rfl rfl hz10 (fun z16 hz16 => ?_)
      refine h_lconst (pc' := 3) (x := (Int64.ofInt 0)) rfl rfl rfl ?_
      refine h_aload_n (pc' := 4) rfl rfl rfl ?_
      refine h_getI (pc' := 7) (v := s0 98 2) rfl rfl rfl rfl rfl rfl (fun z17 hz17 => ?_)
      have tz17 := tf_98_2 I0
      refine h_iconst (pc' := 8) (x := (Int32.ofInt 1)) rfl rfl rfl ?_
      refine h_isub (pc' := 9) rfl rfl hz17 ci_1 rfl (by omega) (by omega) (fun z18 hz18 => ?_)
      clear hz17
      refine h_i2l (pc' := 10) rfl rfl hz18 (fun z19 hz19 => ?_)
      clear hz18
      refine h_calls (pc' := 13) (M := [(0, .long z16), (2, .long (Int64.ofInt 0)), (4, .long z19)]) rfl rfl rfl rfl rfl rfl ?_
      refine h_lload_n (pc' := 1) rfl rfl rfl ?_
      refine h_lload_n (pc' := 2) rfl rfl rfl ?_
      refine h_lcmp (pc' := 3) rfl rfl hz16 cl_0 (fun z20 hz20 => ?_)
      refine h_zlt (tg := 17) (pc' := 6) rfl rfl rfl rfl (fun c21 => ?_) (fun c21 => absurd c21 (by omega))
      replace c21 := (h_lcr hz20).1 c21
      clear hz20
      refine h_iconst (pc' := 18) (x := (Int32.ofInt 0)) rfl rfl rfl ?_
      refine h_zret rfl rfl ci_0 (by omega) (h_Kv ?_)
      clear hz16 hz19
      refine h_zret rfl rfl ci_0 (by omega) (h_Kv ?_)
      refine h_zeq (tg := 72) (pc' := 52) rfl rfl rfl ci_0 (fun c22 => ?_) (fun c22 => absurd (Int.le_antisymm (by omega) (by omega)) c22)
      refine h_iconst (pc' := 73) (x := (Int32.ofInt 0)) rfl rfl rfl ?_
      refine h_bipush (pc' := 75) (x := (Int32.ofInt 26)) rfl rfl cb_26 ?_
      refine h_iload_n (pc' := 76) rfl rfl rfl ?_
      refine h_iadd (pc' := 77) rfl rfl ci_26 hz10 rfl (by have g0 := h_rgv hz10; omega) (by have g0 := h_rgv hz10; omega) (fun z23 hz23 => ?_)
      refine h_iload_n (pc' := 78) rfl rfl rfl ?_
      refine h_iconst (pc' := 79) (x := (Int32.ofInt 0)) rfl rfl rfl ?_
      refine h_call (sp := false) (pc' := 82) (M := [(0, .ref 98), (1, .int (Int32.ofInt 0)), (2, .int z23), (3, .int z14), (4, .int (Int32.ofInt 0))]) rfl rfl rfl rfl rfl rfl rfl rfl ?_
      refine h_iload_n (pc' := 1) rfl rfl rfl ?_
      refine h_zne (tg := 6) (pc' := 4) rfl rfl rfl ci_0 (fun c24 => absurd (Int.le_antisymm (by omega) (by omega)) c24) (fun c24 => ?_)
      refine h_iconst (pc' := 5) (x := (Int32.ofInt (-1))) rfl rfl rfl ?_
      refine h_iret rfl rfl (h_Kv ?_)
      clear hz23
      refine h_iret rfl rfl (h_Kv ?_)
      clear hz10 hz12 hz14
      refine h_ceq (tg := 1441) (pc' := 678) rfl rfl rfl ci_m1 ci_m1 (fun c25 => ?_) (fun c25 => absurd (Int.le_antisymm (by omega) (by omega)) c25)
      exact kk _ I0 (by first | exact d_tape.le j0 (Int.le_antisymm (by omega) (by omega)) (by omega) (fun j => rfl) (fun j => rfl) | (exfalso; omega)) (Int.le_antisymm (by omega) (by omega)) j2 (g_ti.e j3 rfl) (g_SH.e j4 rfl rfl rfl rfl rfl rfl)
    · refine h_aload_n (pc' := 6) rfl rfl rfl ?_
      refine h_aload_n (pc' := 7) rfl rfl rfl ?_
      refine h_iload_n (pc' := 8) rfl rfl rfl ?_
      refine h_call (sp := false) (pc' := 11) (M := [(0, .ref 98), (1, .int z10)]) rfl rfl rfl rfl rfl rfl rfl rfl ?_
      refine h_iload_n (pc' := 1) rfl rfl rfl ?_
      refine h_i2l (pc' := 2) rfl rfl hz10 (fun z26 hz26 => ?_)
      refine h_lconst (pc' := 3) (x := (Int64.ofInt 0)) rfl rfl rfl ?_
      refine h_aload_n (pc' := 4) rfl rfl rfl ?_
      refine h_getI (pc' := 7) (v := s0 98 2) rfl rfl rfl rfl rfl rfl (fun z27 hz27 => ?_)
      have tz27 := tf_98_2 I0
      refine h_iconst (pc' := 8) (x := (Int32.ofInt 1)) rfl rfl rfl ?_
      refine h_isub (pc' := 9) rfl rfl hz27 ci_1 rfl (by omega) (by omega) (fun z28 hz28 => ?_)
      clear hz27
      refine h_i2l (pc' := 10) rfl rfl hz28 (fun z29 hz29 => ?_)
      clear hz28
      refine h_calls (pc' := 13) (M := [(0, .long z26), (2, .long (Int64.ofInt 0)), (4, .long z29)]) rfl rfl rfl rfl rfl rfl ?_
      refine h_lload_n (pc' := 1) rfl rfl rfl ?_
      refine h_lload_n (pc' := 2) rfl rfl rfl ?_
      refine h_lcmp (pc' := 3) rfl rfl hz26 cl_0 (fun z30 hz30 => ?_)
      refine h_zlt (tg := 17) (pc' := 6) rfl rfl rfl rfl (fun c31 => ?_) (fun c31 => absurd c31 (by omega))
      replace c31 := (h_lcr hz30).1 c31
      clear hz30
      refine h_iconst (pc' := 18) (x := (Int32.ofInt 0)) rfl rfl rfl ?_
      refine h_zret rfl rfl ci_0 (by omega) (h_Kv ?_)
      clear hz26 hz29
      refine h_zret rfl rfl ci_0 (by omega) (h_Kv ?_)
      refine h_zeq (tg := 32) (pc' := 14) rfl rfl rfl ci_0 (fun c32 => ?_) (fun c32 => absurd (Int.le_antisymm (by omega) (by omega)) c32)
      refine h_iconst (pc' := 33) (x := (Int32.ofInt 0)) rfl rfl rfl ?_
      refine h_bipush (pc' := 35) (x := (Int32.ofInt 29)) rfl rfl cb_29 ?_
      refine h_iload_n (pc' := 36) rfl rfl rfl ?_
      refine h_iadd (pc' := 37) rfl rfl ci_29 hz10 rfl (by have g0 := h_rgv hz10; omega) (by have g0 := h_rgv hz10; omega) (fun z33 hz33 => ?_)
      refine h_iload_n (pc' := 38) rfl rfl rfl ?_
      refine h_iconst (pc' := 39) (x := (Int32.ofInt 1)) rfl rfl rfl ?_
      refine h_call (sp := false) (pc' := 42) (M := [(0, .ref 98), (1, .int (Int32.ofInt 0)), (2, .int z33), (3, .int z14), (4, .int (Int32.ofInt 1))]) rfl rfl rfl rfl rfl rfl rfl rfl ?_
      refine h_iload_n (pc' := 1) rfl rfl rfl ?_
      refine h_zne (tg := 6) (pc' := 4) rfl rfl rfl ci_0 (fun c34 => absurd (Int.le_antisymm (by omega) (by omega)) c34) (fun c34 => ?_)
      refine h_iconst (pc' := 5) (x := (Int32.ofInt (-1))) rfl rfl rfl ?_
      refine h_iret rfl rfl (h_Kv ?_)
      clear hz33
      refine h_iret rfl rfl (h_Kv ?_)
      clear hz10 hz12 hz14
      refine h_ceq (tg := 1441) (pc' := 678) rfl rfl rfl ci_m1 ci_m1 (fun c35 => ?_) (fun c35 => absurd (Int.le_antisymm (by omega) (by omega)) c35)
      exact kk _ I0 (by first | exact d_tape.le j0 (Int.le_antisymm (by omega) (by omega)) (by omega) (fun j => rfl) (fun j => rfl) | (exfalso; omega)) (Int.le_antisymm (by omega) (by omega)) j2 (g_ti.e j3 rfl) (g_SH.e j4 rfl rfl rfl rfl rfl rfl)
  · refine h_iload_n (pc' := 5) rfl rfl rfl ?_
    refine h_aload_n (pc' := 6) rfl rfl rfl ?_
    refine h_getI (pc' := 9) (v := s0 10 9) rfl rfl rfl rfl rfl rfl (fun z36 hz36 => ?_)
    have tz36 := tf_10_9 I0
    refine h_cge (tg := 16) (pc' := 12) rfl rfl rfl hz2 hz36 (fun c37 => ?_) (fun c37 => ?_)
    · clear hz36
      refine h_iconst (pc' := 17) (x := (Int32.ofInt 0)) rfl rfl rfl ?_
      refine h_zret rfl rfl ci_0 (by omega) (h_Kv ?_)
      refine h_zne (tg := 13) (pc' := 11) rfl rfl rfl ci_0 (fun c38 => absurd (Int.le_antisymm (by omega) (by omega)) c38) (fun c38 => ?_)
      refine h_iconst (pc' := 12) (x := (Int32.ofInt (-1))) rfl rfl rfl ?_
      refine h_iret rfl rfl (h_Kv ?_)
      clear hz2 hz4 hz6
      refine h_aload_n (pc' := 657) rfl rfl rfl ?_
      refine h_aload_n (pc' := 658) rfl rfl rfl ?_
      refine h_iload_n (pc' := 659) rfl rfl rfl ?_
      refine h_iconst (pc' := 660) (x := (Int32.ofInt 1)) rfl rfl rfl ?_
      refine h_iadd (pc' := 661) rfl rfl hy3 ci_1 rfl (by omega) (by omega) (fun z39 hz39 => ?_)
      refine h_iald (pc' := 662) (v := s0 0 (b3 + 1)) rfl rfl rfl hz39 (by omega) (by omega) rfl (fun z40 hz40 => ?_)
      have tz40 := h_rgv hz40
      clear hz39
      refine h_aload_n (pc' := 663) rfl rfl rfl ?_
      refine h_iload_n (pc' := 664) rfl rfl rfl ?_
      refine h_iconst (pc' := 665) (x := (Int32.ofInt 2)) rfl rfl rfl ?_
      refine h_iadd (pc' := 666) rfl rfl hy3 ci_2 rfl (by omega) (by omega) (fun z41 hz41 => ?_)
      refine h_iald (pc' := 667) (v := s0 0 (b3 + 2)) rfl rfl rfl hz41 (by omega) (by omega) rfl (fun z42 hz42 => ?_)
      have tz42 := h_rgv hz42
      clear hz41
      refine h_aload_n (pc' := 668) rfl rfl rfl ?_
      refine h_iload_n (pc' := 669) rfl rfl rfl ?_
      refine h_iconst (pc' := 670) (x := (Int32.ofInt 3)) rfl rfl rfl ?_
      refine h_iadd (pc' := 671) rfl rfl hy3 ci_3 rfl (by omega) (by omega) (fun z43 hz43 => ?_)
      refine h_iald (pc' := 672) (v := s0 0 (b3 + 3)) rfl rfl rfl hz43 (by omega) (by omega) rfl (fun z44 hz44 => ?_)
      have tz44 := h_rgv hz44
      clear hz43
      refine h_call (sp := false) (pc' := 675) (M := [(0, .ref 98), (1, .int z40), (2, .int z42), (3, .int z44)]) rfl rfl rfl rfl rfl rfl rfl rfl ?_
      refine h_iload_n (pc' := 1) rfl rfl rfl ?_
      refine h_iconst (pc' := 2) (x := (Int32.ofInt 1)) rfl rfl rfl ?_
      refine h_cne (tg := 43) (pc' := 5) rfl rfl rfl hz42 ci_1 (fun c45 => ?_) (fun c45 => ?_)
      · refine h_aload_n (pc' := 44) rfl rfl rfl ?_
        refine h_aload_n (pc' := 45) rfl rfl rfl ?_
        refine h_iload_n (pc' := 46) rfl rfl rfl ?_
        refine h_call (sp := false) (pc' := 49) (M := [(0, .ref 98), (1, .int z40)]) rfl rfl rfl rfl rfl rfl rfl rfl ?_
        refine h_iload_n (pc' := 1) rfl rfl rfl ?_
        refine h_i2l (pc' := 2) rfl rfl hz40 (fun z46 hz46 => ?_)
        refine h_lconst (pc' := 3) (x := (Int64.ofInt 0)) rfl rfl rfl ?_
        refine h_aload_n (pc' := 4) rfl rfl rfl ?_
        refine h_getI (pc' := 7) (v := s0 98 2) rfl rfl rfl rfl rfl rfl (fun z47 hz47 => ?_)
        have tz47 := tf_98_2 I0
        refine h_iconst (pc' := 8) (x := (Int32.ofInt 1)) rfl rfl rfl ?_
        refine h_isub (pc' := 9) rfl rfl hz47 ci_1 rfl (by omega) (by omega) (fun z48 hz48 => ?_)
        clear hz47
        refine h_i2l (pc' := 10) rfl rfl hz48 (fun z49 hz49 => ?_)
        clear hz48
        refine h_calls (pc' := 13) (M := [(0, .long z46), (2, .long (Int64.ofInt 0)), (4, .long z49)]) rfl rfl rfl rfl rfl rfl ?_
        refine h_lload_n (pc' := 1) rfl rfl rfl ?_
        refine h_lload_n (pc' := 2) rfl rfl rfl ?_
        refine h_lcmp (pc' := 3) rfl rfl hz46 cl_0 (fun z50 hz50 => ?_)
        refine h_zlt (tg := 17) (pc' := 6) rfl rfl rfl rfl (fun c51 => absurd c51 (by omega)) (fun c51 => ?_)
        replace c51 := (h_lcr hz50).2.1 c51
        clear hz50
        refine h_lload_n (pc' := 7) rfl rfl rfl ?_
        refine h_lload (pc' := 9) rfl rfl rfl ?_
        refine h_lcmp (pc' := 10) rfl rfl hz46 hz49 (fun z52 hz52 => ?_)
        refine h_zgt (tg := 17) (pc' := 13) rfl rfl rfl rfl (fun c53 => ?_) (fun c53 => absurd c53 (by omega))
        replace c53 := (h_lcr hz52).2.2.2.1 c53
        clear hz52
        refine h_iconst (pc' := 18) (x := (Int32.ofInt 0)) rfl rfl rfl ?_
        refine h_zret rfl rfl ci_0 (by omega) (h_Kv ?_)
        clear hz46 hz49
        refine h_zret rfl rfl ci_0 (by omega) (h_Kv ?_)
        refine h_zeq (tg := 72) (pc' := 52) rfl rfl rfl ci_0 (fun c54 => ?_) (fun c54 => absurd (Int.le_antisymm (by omega) (by omega)) c54)
        refine h_iconst (pc' := 73) (x := (Int32.ofInt 0)) rfl rfl rfl ?_
        refine h_bipush (pc' := 75) (x := (Int32.ofInt 26)) rfl rfl cb_26 ?_
        refine h_iload_n (pc' := 76) rfl rfl rfl ?_
        refine h_iaddA (pc' := 77) rfl rfl (fun z55 hz55 => ?_)
        refine h_iload_n (pc' := 78) rfl rfl rfl ?_
        refine h_iconst (pc' := 79) (x := (Int32.ofInt 0)) rfl rfl rfl ?_
        refine h_call (sp := false) (pc' := 82) (M := [(0, .ref 98), (1, .int (Int32.ofInt 0)), (2, .int z55), (3, .int z44), (4, .int (Int32.ofInt 0))]) rfl rfl rfl rfl rfl rfl rfl rfl ?_
        refine h_iload_n (pc' := 1) rfl rfl rfl ?_
        refine h_zne (tg := 6) (pc' := 4) rfl rfl rfl ci_0 (fun c56 => absurd (Int.le_antisymm (by omega) (by omega)) c56) (fun c56 => ?_)
        refine h_iconst (pc' := 5) (x := (Int32.ofInt (-1))) rfl rfl rfl ?_
        refine h_iret rfl rfl (h_Kv ?_)
        refine h_iret rfl rfl (h_Kv ?_)
        clear hz40 hz42 hz44
        refine h_ceq (tg := 1441) (pc' := 678) rfl rfl rfl ci_m1 ci_m1 (fun c57 => ?_) (fun c57 => absurd (Int.le_antisymm (by omega) (by omega)) c57)
        exact kk _ I0 (by first | exact d_tape.le j0 (Int.le_antisymm (by omega) (by omega)) (by omega) (fun j => rfl) (fun j => rfl) | (exfalso; omega)) (Int.le_antisymm (by omega) (by omega)) j2 (g_ti.e j3 rfl) (g_SH.e j4 rfl rfl rfl rfl rfl rfl)
      · refine h_aload_n (pc' := 6) rfl rfl rfl ?_
        refine h_aload_n (pc' := 7) rfl rfl rfl ?_
        refine h_iload_n (pc' := 8) rfl rfl rfl ?_
        refine h_call (sp := false) (pc' := 11) (M := [(0, .ref 98), (1, .int z40)]) rfl rfl rfl rfl rfl rfl rfl rfl ?_
        refine h_iload_n (pc' := 1) rfl rfl rfl ?_
        refine h_i2l (pc' := 2) rfl rfl hz40 (fun z58 hz58 => ?_)
        refine h_lconst (pc' := 3) (x := (Int64.ofInt 0)) rfl rfl rfl ?_
        refine h_aload_n (pc' := 4) rfl rfl rfl ?_
        refine h_getI (pc' := 7) (v := s0 98 2) rfl rfl rfl rfl rfl rfl (fun z59 hz59 => ?_)
        have tz59 := tf_98_2 I0
        refine h_iconst (pc' := 8) (x := (Int32.ofInt 1)) rfl rfl rfl ?_
        refine h_isub (pc' := 9) rfl rfl hz59 ci_1 rfl (by omega) (by omega) (fun z60 hz60 => ?_)
        clear hz59
        refine h_i2l (pc' := 10) rfl rfl hz60 (fun z61 hz61 => ?_)
        clear hz60
        refine h_calls (pc' := 13) (M := [(0, .long z58), (2, .long (Int64.ofInt 0)), (4, .long z61)]) rfl rfl rfl rfl rfl rfl ?_
        refine h_lload_n (pc' := 1) rfl rfl rfl ?_
        refine h_lload_n (pc' := 2) rfl rfl rfl ?_
        refine h_lcmp (pc' := 3) rfl rfl hz58 cl_0 (fun z62 hz62 => ?_)
        refine h_zlt (tg := 17) (pc' := 6) rfl rfl rfl rfl (fun c63 => absurd c63 (by omega)) (fun c63 => ?_)
        replace c63 := (h_lcr hz62).2.1 c63
        clear hz62
        refine h_lload_n (pc' := 7) rfl rfl rfl ?_
        refine h_lload (pc' := 9) rfl rfl rfl ?_
        refine h_lcmp (pc' := 10) rfl rfl hz58 hz61 (fun z64 hz64 => ?_)
        refine h_zgt (tg := 17) (pc' := 13) rfl rfl rfl rfl (fun c65 => ?_) (fun c65 => absurd c65 (by omega))
        replace c65 := (h_lcr hz64).2.2.2.1 c65
        clear hz64
        refine h_iconst (pc' := 18) (x := (Int32.ofInt 0)) rfl rfl rfl ?_
        refine h_zret rfl rfl ci_0 (by omega) (h_Kv ?_)
        clear hz58 hz61
        refine h_zret rfl rfl ci_0 (by omega) (h_Kv ?_)
        refine h_zeq (tg := 32) (pc' := 14) rfl rfl rfl ci_0 (fun c66 => ?_) (fun c66 => absurd (Int.le_antisymm (by omega) (by omega)) c66)
        refine h_iconst (pc' := 33) (x := (Int32.ofInt 0)) rfl rfl rfl ?_
        refine h_bipush (pc' := 35) (x := (Int32.ofInt 29)) rfl rfl cb_29 ?_
        refine h_iload_n (pc' := 36) rfl rfl rfl ?_
        refine h_iaddA (pc' := 37) rfl rfl (fun z67 hz67 => ?_)
        refine h_iload_n (pc' := 38) rfl rfl rfl ?_
        refine h_iconst (pc' := 39) (x := (Int32.ofInt 1)) rfl rfl rfl ?_
        refine h_call (sp := false) (pc' := 42) (M := [(0, .ref 98), (1, .int (Int32.ofInt 0)), (2, .int z67), (3, .int z44), (4, .int (Int32.ofInt 1))]) rfl rfl rfl rfl rfl rfl rfl rfl ?_
        refine h_iload_n (pc' := 1) rfl rfl rfl ?_
        refine h_zne (tg := 6) (pc' := 4) rfl rfl rfl ci_0 (fun c68 => absurd (Int.le_antisymm (by omega) (by omega)) c68) (fun c68 => ?_)
        refine h_iconst (pc' := 5) (x := (Int32.ofInt (-1))) rfl rfl rfl ?_
        refine h_iret rfl rfl (h_Kv ?_)
        refine h_iret rfl rfl (h_Kv ?_)
        clear hz40 hz42 hz44
        refine h_ceq (tg := 1441) (pc' := 678) rfl rfl rfl ci_m1 ci_m1 (fun c69 => ?_) (fun c69 => absurd (Int.le_antisymm (by omega) (by omega)) c69)
        exact kk _ I0 (by first | exact d_tape.le j0 (Int.le_antisymm (by omega) (by omega)) (by omega) (fun j => rfl) (fun j => rfl) | (exfalso; omega)) (Int.le_antisymm (by omega) (by omega)) j2 (g_ti.e j3 rfl) (g_SH.e j4 rfl rfl rfl rfl rfl rfl)
    · clear hz36
      refine h_iconst (pc' := 13) (x := (Int32.ofInt 1)) rfl rfl rfl ?_
      refine h_goto (pc' := 17) rfl rfl ?_
      refine h_zret rfl rfl ci_1 (by omega) (h_Kv ?_)
      refine h_zne (tg := 13) (pc' := 11) rfl rfl rfl ci_1 (fun c70 => ?_) (fun c70 => absurd c70 (by omega))
      refine h_iload_n (pc' := 14) rfl rfl rfl ?_
      refine h_zne (tg := 51) (pc' := 17) rfl rfl rfl hz4 (fun c71 => ?_) (fun c71 => ?_)
      · refine h_iload_n (pc' := 52) rfl rfl rfl ?_
        refine h_iconst (pc' := 53) (x := (Int32.ofInt 1)) rfl rfl rfl ?_
        refine h_cne (tg := 97) (pc' := 56) rfl rfl rfl hz4 ci_1 (fun c72 => ?_) (fun c72 => ?_)
        · refine h_iconst (pc' := 98) (x := (Int32.ofInt (-1))) rfl rfl rfl ?_
          refine h_iret rfl rfl (h_Kv ?_)
          clear hz2 hz4 hz6
          refine h_aload_n (pc' := 657) rfl rfl rfl ?_
          refine h_aload_n (pc' := 658) rfl rfl rfl ?_
          refine h_iload_n (pc' := 659) rfl rfl rfl ?_
          refine h_iconst (pc' := 660) (x := (Int32.ofInt 1)) rfl rfl rfl ?_
          refine h_iadd (pc' := 661) rfl rfl hy3 ci_1 rfl (by omega) (by omega) (fun z73 hz73 => ?_)
          refine h_iald (pc' := 662) (v := s0 0 (b3 + 1)) rfl rfl rfl hz73 (by omega) (by omega) rfl (fun z74 hz74 => ?_)
          have tz74 := h_rgv hz74
          clear hz73
          refine h_aload_n (pc' := 663) rfl rfl rfl ?_
          refine h_iload_n (pc' := 664) rfl rfl rfl ?_
          refine h_iconst (pc' := 665) (x := (Int32.ofInt 2)) rfl rfl rfl ?_
          refine h_iadd (pc' := 666) rfl rfl hy3 ci_2 rfl (by omega) (by omega) (fun z75 hz75 => ?_)
          refine h_iald (pc' := 667) (v := s0 0 (b3 + 2)) rfl rfl rfl hz75 (by omega) (by omega) rfl (fun z76 hz76 => ?_)
          have tz76 := h_rgv hz76
          clear hz75
          refine h_aload_n (pc' := 668) rfl rfl rfl ?_
          refine h_iload_n (pc' := 669) rfl rfl rfl ?_
          refine h_iconst (pc' := 670) (x := (Int32.ofInt 3)) rfl rfl rfl ?_
          refine h_iadd (pc' := 671) rfl rfl hy3 ci_3 rfl (by omega) (by omega) (fun z77 hz77 => ?_)
          refine h_iald (pc' := 672) (v := s0 0 (b3 + 3)) rfl rfl rfl hz77 (by omega) (by omega) rfl (fun z78 hz78 => ?_)
          have tz78 := h_rgv hz78
          clear hz77
          refine h_call (sp := false) (pc' := 675) (M := [(0, .ref 98), (1, .int z74), (2, .int z76), (3, .int z78)]) rfl rfl rfl rfl rfl rfl rfl rfl ?_
          refine h_iload_n (pc' := 1) rfl rfl rfl ?_
          refine h_iconst (pc' := 2) (x := (Int32.ofInt 1)) rfl rfl rfl ?_
          refine h_cne (tg := 43) (pc' := 5) rfl rfl rfl hz76 ci_1 (fun c79 => ?_) (fun c79 => absurd c79 (by omega))
          refine h_aload_n (pc' := 44) rfl rfl rfl ?_
          refine h_aload_n (pc' := 45) rfl rfl rfl ?_
          refine h_iload_n (pc' := 46) rfl rfl rfl ?_
          refine h_call (sp := false) (pc' := 49) (M := [(0, .ref 98), (1, .int z74)]) rfl rfl rfl rfl rfl rfl rfl rfl ?_
          refine h_iload_n (pc' := 1) rfl rfl rfl ?_
          refine h_i2l (pc' := 2) rfl rfl hz74 (fun z80 hz80 => ?_)
          refine h_lconst (pc' := 3) (x := (Int64.ofInt 0)) rfl rfl rfl ?_
          refine h_aload_n (pc' := 4) rfl rfl rfl ?_
          refine h_getI (pc' := 7) (v := s0 98 2) rfl rfl rfl rfl rfl rfl (fun z81 hz81 => ?_)
          have tz81 := tf_98_2 I0
          refine h_iconst (pc' := 8) (x := (Int32.ofInt 1)) rfl rfl rfl ?_
          refine h_isub (pc' := 9) rfl rfl hz81 ci_1 rfl (by omega) (by omega) (fun z82 hz82 => ?_)
          clear hz81
          refine h_i2l (pc' := 10) rfl rfl hz82 (fun z83 hz83 => ?_)
          clear hz82
          refine h_calls (pc' := 13) (M := [(0, .long z80), (2, .long (Int64.ofInt 0)), (4, .long z83)]) rfl rfl rfl rfl rfl rfl ?_
          refine h_lload_n (pc' := 1) rfl rfl rfl ?_
          refine h_lload_n (pc' := 2) rfl rfl rfl ?_
          refine h_lcmp (pc' := 3) rfl rfl hz80 cl_0 (fun z84 hz84 => ?_)
          refine h_zlt (tg := 17) (pc' := 6) rfl rfl rfl rfl (fun c85 => absurd c85 (by omega)) (fun c85 => ?_)
          replace c85 := (h_lcr hz84).2.1 c85
          clear hz84
          refine h_lload_n (pc' := 7) rfl rfl rfl ?_
          refine h_lload (pc' := 9) rfl rfl rfl ?_
          refine h_lcmp (pc' := 10) rfl rfl hz80 hz83 (fun z86 hz86 => ?_)
          refine h_zgt (tg := 17) (pc' := 13) rfl rfl rfl rfl (fun c87 => absurd c87 (by omega)) (fun c87 => ?_)
          replace c87 := (h_lcr hz86).2.2.1 c87
          clear hz86
          refine h_iconst (pc' := 14) (x := (Int32.ofInt 1)) rfl rfl rfl ?_
          refine h_goto (pc' := 18) rfl rfl ?_
          refine h_zret rfl rfl ci_1 (by omega) (h_Kv ?_)
          clear hz80 hz83
          refine h_zret rfl rfl ci_1 (by omega) (h_Kv ?_)
          refine h_zeq (tg := 72) (pc' := 52) rfl rfl rfl ci_1 (fun c88 => absurd c88 (by omega)) (fun c88 => ?_)
          refine h_iload_n (pc' := 53) rfl rfl rfl ?_
          refine h_zne (tg := 72) (pc' := 56) rfl rfl rfl hz76 (fun c89 => ?_) (fun c89 => absurd c89 (by omega))
          refine h_iconst (pc' := 73) (x := (Int32.ofInt 0)) rfl rfl rfl ?_
          refine h_bipush (pc' := 75) (x := (Int32.ofInt 26)) rfl rfl cb_26 ?_
          refine h_iload_n (pc' := 76) rfl rfl rfl ?_
          refine h_iadd (pc' := 77) rfl rfl ci_26 hz74 rfl (by have g0 := h_rgv hz74; omega) (by have g0 := h_rgv hz74; omega) (fun z90 hz90 => ?_)
          refine h_iload_n (pc' := 78) rfl rfl rfl ?_
          refine h_iconst (pc' := 79) (x := (Int32.ofInt 0)) rfl rfl rfl ?_
          refine h_call (sp := false) (pc' := 82) (M := [(0, .ref 98), (1, .int (Int32.ofInt 0)), (2, .int z90), (3, .int z78), (4, .int (Int32.ofInt 0))]) rfl rfl rfl rfl rfl rfl rfl rfl ?_
          refine h_iload_n (pc' := 1) rfl rfl rfl ?_
          refine h_zne (tg := 6) (pc' := 4) rfl rfl rfl ci_0 (fun c91 => absurd (Int.le_antisymm (by omega) (by omega)) c91) (fun c91 => ?_)
          refine h_iconst (pc' := 5) (x := (Int32.ofInt (-1))) rfl rfl rfl ?_
          refine h_iret rfl rfl (h_Kv ?_)
          clear hz90
          refine h_iret rfl rfl (h_Kv ?_)
          clear hz74 hz76 hz78
          refine h_ceq (tg := 1441) (pc' := 678) rfl rfl rfl ci_m1 ci_m1 (fun c92 => ?_) (fun c92 => absurd (Int.le_antisymm (by omega) (by omega)) c92)
          exact kk _ I0 (by first | exact d_tape.le j0 (Int.le_antisymm (by omega) (by omega)) (by omega) (fun j => rfl) (fun j => rfl) | (exfalso; omega)) (Int.le_antisymm (by omega) (by omega)) j2 (g_ti.e j3 rfl) (g_SH.e j4 rfl rfl rfl rfl rfl rfl)
        · refine h_iload_n (pc' := 57) rfl rfl rfl ?_
          refine h_bipush (pc' := 59) (x := (Int32.ofInt (-4))) rfl rfl cb_m4 ?_
          refine h_ceq (tg := 73) (pc' := 62) rfl rfl rfl hz6 ci_m4 (fun c93 => ?_) (fun c93 => ?_)
          · refine h_aload_n (pc' := 74) rfl rfl rfl ?_
            refine h_getR (pc' := 77) rfl rfl rfl rfl rfl ?_
            refine h_getR (pc' := 80) rfl rfl rfl rfl rfl ?_
            refine h_iload_n (pc' := 81) rfl rfl rfl ?_
            refine h_iald (pc' := 82) (v := s0 20 (s0 0 (b3 + 1))) rfl rfl rfl hz2 (by omega) (by omega) rfl (fun z94 hz94 => ?_)
            have tz94 := ty_20 I0 (s0 0 (b3 + 1))
            refine h_istore (pc' := 84) (M := [(4, .int z94), (0, .ref 9), (1, .int z2), (2, .int z4), (3, .int z6)]) rfl rfl rfl rfl ?_
            refine h_aload_n (pc' := 85) rfl rfl rfl ?_
            refine h_getR (pc' := 88) rfl rfl rfl rfl rfl ?_
            refine h_getR (pc' := 91) rfl rfl rfl rfl rfl ?_
            refine h_iload_n (pc' := 92) rfl rfl rfl ?_
            refine h_iload_n (pc' := 93) rfl rfl rfl ?_
            refine h_iast (pc' := 94) rfl rfl rfl rfl hz2 (by omega) (by omega) hz6 (h_fgt (E := fun s => s 64 1 = s0 64 1 ∧ s 98 11 = s0 98 11 ∧ s 64 4 = s0 64 4 ∧ s 98 16 = s0 98 16 ∧ s 10 8 = s0 10 8 ∧ s 98 1 = s0 98 1 ∧ s 10 9 = s0 10 9 ∧ s 98 2 = s0 98 2 ∧ s = h_up s0 20 (s0 0 (b3 + 1)) (s0 0 (b3 + 3))) _ (in_20 I0 (by omega)) (F0_.up rfl) ⟨rfl, rfl, rfl, rfl, rfl, rfl, rfl, rfl, rfl⟩ (fun s95 Is95 Fs95 (es95 : s95 64 1 = s0 64 1 ∧ s95 98 11 = s0 98 11 ∧ s95 64 4 = s0 64 4 ∧ s95 98 16 = s0 98 16 ∧ s95 10 8 = s0 10 8 ∧ s95 98 1 = s0 98 1 ∧ s95 10 9 = s0 10 9 ∧ s95 98 2 = s0 98 2 ∧ s95 = h_up s0 20 (s0 0 (b3 + 1)) (s0 0 (b3 + 3))) => ?_))
            have us95 := es95.2.2.2.2.2.2.2.2
            have Zs95 : ∀ i, s95 0 i = s0 0 i := fun i => (h_upo us95 rfl i).trans rfl
            refine h_iload (pc' := 96) rfl rfl rfl ?_
            refine h_iret rfl rfl (h_Kv ?_)
            clear hz2 hz4 hz6
            refine h_aload_n (pc' := 657) rfl rfl rfl ?_
            refine h_aload_n (pc' := 658) rfl rfl rfl ?_
            refine h_iload_n (pc' := 659) rfl rfl rfl ?_
            refine h_iconst (pc' := 660) (x := (Int32.ofInt 1)) rfl rfl rfl ?_
            refine h_iadd (pc' := 661) rfl rfl hy3 ci_1 rfl (by omega) (by omega) (fun z96 hz96 => ?_)
            refine h_iald (pc' := 662) (v := s0 0 (b3 + 1)) rfl rfl rfl hz96 (by omega) (by omega) (Zs95 _) (fun z97 hz97 => ?_)
            have tz97 := h_rgv hz97
            clear hz96
            refine h_aload_n (pc' := 663) rfl rfl rfl ?_
            refine h_iload_n (pc' := 664) rfl rfl rfl ?_
            refine h_iconst (pc' := 665) (x := (Int32.ofInt 2)) rfl rfl rfl ?_
            refine h_iadd (pc' := 666) rfl rfl hy3 ci_2 rfl (by omega) (by omega) (fun z98 hz98 => ?_)
            refine h_iald (pc' := 667) (v := s0 0 (b3 + 2)) rfl rfl rfl hz98 (by omega) (by omega) (Zs95 _) (fun z99 hz99 => ?_)
            have tz99 := h_rgv hz99
            clear hz98
            refine h_aload_n (pc' := 668) rfl rfl rfl ?_
            refine h_iload_n (pc' := 669) rfl rfl rfl ?_
            refine h_iconst (pc' := 670) (x := (Int32.ofInt 3)) rfl rfl rfl ?_
            refine h_iadd (pc' := 671) rfl rfl hy3 ci_3 rfl (by omega) (by omega) (fun z100 hz100 => ?_)
            refine h_iald (pc' := 672) (v := s0 0 (b3 + 3)) rfl rfl rfl hz100 (by omega) (by omega) (Zs95 _) (fun z101 hz101 => ?_)
            have tz101 := h_rgv hz101
            clear hz100
            refine h_call (sp := false) (pc' := 675) (M := [(0, .ref 98), (1, .int z97), (2, .int z99), (3, .int z101)]) rfl rfl rfl rfl rfl rfl rfl rfl ?_
            refine h_iload_n (pc' := 1) rfl rfl rfl ?_
            refine h_iconst (pc' := 2) (x := (Int32.ofInt 1)) rfl rfl rfl ?_
            refine h_cne (tg := 43) (pc' := 5) rfl rfl rfl hz99 ci_1 (fun c102 => absurd (Int.le_antisymm (by omega) (by omega)) c102) (fun c102 => ?_)
            refine h_aload_n (pc' := 6) rfl rfl rfl ?_
            refine h_aload_n (pc' := 7) rfl rfl rfl ?_
            refine h_iload_n (pc' := 8) rfl rfl rfl ?_
            refine h_call (sp := false) (pc' := 11) (M := [(0, .ref 98), (1, .int z97)]) rfl rfl rfl rfl rfl rfl rfl rfl ?_
            refine h_iload_n (pc' := 1) rfl rfl rfl ?_
            refine h_i2l (pc' := 2) rfl rfl hz97 (fun z103 hz103 => ?_)
            refine h_lconst (pc' := 3) (x := (Int64.ofInt 0)) rfl rfl rfl ?_
            refine h_aload_n (pc' := 4) rfl rfl rfl ?_
            refine h_getI (pc' := 7) (v := s0 98 2) rfl rfl rfl rfl rfl es95.2.2.2.2.2.2.2.1 (fun z104 hz104 => ?_)
            have tz104 := tf_98_2 I0
            refine h_iconst (pc' := 8) (x := (Int32.ofInt 1)) rfl rfl rfl ?_
            refine h_isub (pc' := 9) rfl rfl hz104 ci_1 rfl (by omega) (by omega) (fun z105 hz105 => ?_)
            clear hz104
            refine h_i2l (pc' := 10) rfl rfl hz105 (fun z106 hz106 => ?_)
            clear hz105
            refine h_calls (pc' := 13) (M := [(0, .long z103), (2, .long (Int64.ofInt 0)), (4, .long z106)]) rfl rfl rfl rfl rfl rfl ?_
            refine h_lload_n (pc' := 1) rfl rfl rfl ?_
            refine h_lload_n (pc' := 2) rfl rfl rfl ?_
            refine h_lcmp (pc' := 3) rfl rfl hz103 cl_0 (fun z107 hz107 => ?_)
            refine h_zlt (tg := 17) (pc' := 6) rfl rfl rfl rfl (fun c108 => absurd c108 (by omega)) (fun c108 => ?_)
            replace c108 := (h_lcr hz107).2.1 c108
            clear hz107
            refine h_lload_n (pc' := 7) rfl rfl rfl ?_
            refine h_lload (pc' := 9) rfl rfl rfl ?_
            refine h_lcmp (pc' := 10) rfl rfl hz103 hz106 (fun z109 hz109 => ?_)
            refine h_zgt (tg := 17) (pc' := 13) rfl rfl rfl rfl (fun c110 => absurd c110 (by omega)) (fun c110 => ?_)
            replace c110 := (h_lcr hz109).2.2.1 c110
            clear hz109
            refine h_iconst (pc' := 14) (x := (Int32.ofInt 1)) rfl rfl rfl ?_
            refine h_goto (pc' := 18) rfl rfl ?_
            refine h_zret rfl rfl ci_1 (by omega) (h_Kv ?_)
            clear hz103 hz106
            refine h_zret rfl rfl ci_1 (by omega) (h_Kv ?_)
            refine h_zeq (tg := 32) (pc' := 14) rfl rfl rfl ci_1 (fun c111 => absurd c111 (by omega)) (fun c111 => ?_)
            refine h_iload_n (pc' := 15) rfl rfl rfl ?_
            refine h_bipush (pc' := 17) (x := (Int32.ofInt (-4))) rfl rfl cb_m4 ?_
            refine h_ceq (tg := 28) (pc' := 20) rfl rfl rfl hz101 ci_m4 (fun c112 => ?_) (fun c112 => absurd (Int.le_antisymm (by omega) (by omega)) c112)
            refine h_iconst (pc' := 29) (x := (Int32.ofInt 1)) rfl rfl rfl ?_
            refine h_goto (pc' := 33) rfl rfl ?_
            refine h_bipush (pc' := 35) (x := (Int32.ofInt 29)) rfl rfl cb_29 ?_
            refine h_iload_n (pc' := 36) rfl rfl rfl ?_
            refine h_iadd (pc' := 37) rfl rfl ci_29 hz97 rfl (by have g0 := h_rgv hz97; omega) (by have g0 := h_rgv hz97; omega) (fun z113 hz113 => ?_)
            refine h_iload_n (pc' := 38) rfl rfl rfl ?_
            refine h_iconst (pc' := 39) (x := (Int32.ofInt 1)) rfl rfl rfl ?_
            refine h_call (sp := false) (pc' := 42) (M := [(0, .ref 98), (1, .int (Int32.ofInt 1)), (2, .int z113), (3, .int z101), (4, .int (Int32.ofInt 1))]) rfl rfl rfl rfl rfl rfl rfl rfl ?_
            refine h_iload_n (pc' := 1) rfl rfl rfl ?_
            refine h_zne (tg := 6) (pc' := 4) rfl rfl rfl ci_1 (fun c114 => ?_) (fun c114 => absurd c114 (by omega))
            refine h_iload (pc' := 8) rfl rfl rfl ?_
            refine h_zne (tg := 20) (pc' := 11) rfl rfl rfl ci_1 (fun c115 => ?_) (fun c115 => absurd c115 (by omega))
            refine h_aload_n (pc' := 21) rfl rfl rfl ?_
            refine h_getR (pc' := 24) rfl rfl rfl rfl rfl ?_
            refine h_iload_n (pc' := 25) rfl rfl rfl ?_
            refine h_iald (pc' := 26) (v := s95 99 (29 + (s0 0 (b3 + 1)))) rfl rfl rfl hz113 (by omega) (by omega) rfl (fun z116 hz116 => ?_)
            have tz116 := ty_99_7 Is95 (29 + (s0 0 (b3 + 1))) (by omega)
            refine h_calls (pc' := 29) (M := [(0, .int z116)]) rfl rfl rfl rfl rfl rfl ?_
            refine h_iload_n (pc' := 1) rfl rfl rfl ?_
            refine h_zne (tg := 9) (pc' := 4) rfl rfl rfl hz116 (fun c117 => ?_) (fun c117 => ?_)
            · refine h_iload_n (pc' := 10) rfl rfl rfl ?_
              refine h_iconst (pc' := 11) (x := (Int32.ofInt 1)) rfl rfl rfl ?_
              refine h_isub (pc' := 12) rfl rfl hz116 ci_1 rfl (by omega) (by omega) (fun z118 hz118 => ?_)
              refine h_iret rfl rfl (h_Kv ?_)
              clear hz116
              refine h_istore (pc' := 31) (M := [(5, .int z118), (0, .ref 98), (1, .int (Int32.ofInt 1)), (2, .int z113), (3, .int z101), (4, .int (Int32.ofInt 1))]) rfl rfl rfl rfl ?_
              refine h_aload_n (pc' := 32) rfl rfl rfl ?_
              refine h_getR (pc' := 35) rfl rfl rfl rfl rfl ?_
              refine h_iload_n (pc' := 36) rfl rfl rfl ?_
              refine h_iload (pc' := 38) rfl rfl rfl ?_
              refine h_zne (tg := 45) (pc' := 41) rfl rfl rfl ci_1 (fun c119 => ?_) (fun c119 => absurd c119 (by omega))
              refine h_iload_n (pc' := 46) rfl rfl rfl ?_
              refine h_bipush (pc' := 48) (x := (Int32.ofInt (-4))) rfl rfl cb_m4 ?_
              refine h_cne (tg := 55) (pc' := 51) rfl rfl rfl hz101 ci_m4 (fun c120 => absurd (Int.le_antisymm (by omega) (by omega)) c120) (fun c120 => ?_)
              refine h_iconst (pc' := 52) (x := (Int32.ofInt 0)) rfl rfl rfl ?_
              refine h_goto (pc' := 58) rfl rfl ?_
              refine h_iast (pc' := 59) rfl rfl rfl rfl hz113 (by omega) (by omega) ci_0 (h_fgt (E := fun s => s 64 1 = s0 64 1 ∧ s 98 11 = s0 98 11 ∧ s 64 4 = s0 64 4 ∧ s 98 16 = s0 98 16 ∧ s 10 8 = s0 10 8 ∧ s 98 1 = s0 98 1 ∧ s 10 9 = s0 10 9 ∧ s 98 2 = s0 98 2 ∧ s = h_up s95 99 (29 + (s0 0 (b3 + 1))) 0) _ (ip_99_7 Is95 (by omega) (by omega)) (Fs95.up rfl) ⟨es95.1, es95.2.1, es95.2.2.1, es95.2.2.2.1, es95.2.2.2.2.1, es95.2.2.2.2.2.1, es95.2.2.2.2.2.2.1, es95.2.2.2.2.2.2.2.1, rfl⟩ (fun s121 Is121 Fs121 (es121 : s121 64 1 = s0 64 1 ∧ s121 98 11 = s0 98 11 ∧ s121 64 4 = s0 64 4 ∧ s121 98 16 = s0 98 16 ∧ s121 10 8 = s0 10 8 ∧ s121 98 1 = s0 98 1 ∧ s121 10 9 = s0 10 9 ∧ s121 98 2 = s0 98 2 ∧ s121 = h_up s95 99 (29 + (s0 0 (b3 + 1))) 0) => ?_))
              clear es95
              have us121 := es121.2.2.2.2.2.2.2.2
              have Zs121 : ∀ i, s121 0 i = s0 0 i := fun i => (h_upo us121 rfl i).trans (Zs95 i)
              refine h_iload (pc' := 61) rfl rfl rfl ?_
              refine h_iret rfl rfl (h_Kv ?_)
              clear hz113
              refine h_iret rfl rfl (h_Kv ?_)
              clear hz101 hz97 hz99
              refine h_ceq (tg := 1441) (pc' := 678) rfl rfl rfl hz94 hz118 (fun c122 => ?_) (fun c122 => ?_)
              · clear hz118 hz94
                exact kk _ Is121 (by first | exact d_tape.le j0 (Int.le_antisymm (by omega) (by omega)) (by omega) (fun j => (h_upo us121 rfl j).trans ((h_upo us95 rfl j))) (fun j => (h_upo us121 rfl j).trans ((h_upo us95 rfl j))) | (exfalso; omega)) (Int.le_antisymm (by omega) (by omega)) (c_R.las j2 I0 (by omega) (by omega) (Int.le_antisymm (by omega) (by omega)) (by omega) (fun j => (h_upo us121 rfl j).trans ((h_upi us95 j)))  (fun j => (h_upi us121 j).trans (congrArg (fun z => if j = (29 + (s0 0 (b3 + 1))) then 0 else z) ((h_upo us95 rfl j))))  (fun p j n0 n1 => (h_upq us121 n1 j).trans ((h_upq us95 n0 j)))) (g_ti.e j3 ((h_upg us121 rfl).trans (h_upg us95 rfl))) (g_SH.e j4 ((h_upg us121 rfl).trans (h_upg us95 rfl)) ((h_upg us121 rfl).trans (h_upg us95 rfl)) ((h_upg us121 rfl).trans (h_upg us95 rfl)) ((h_upg us121 rfl).trans (h_upg us95 rfl)) ((h_upg us121 rfl).trans (h_upg us95 rfl)) ((h_upg us121 rfl).trans (h_upg us95 rfl)))
              · clear hz118 hz94
                refine h_iconst (pc' := 679) (x := (Int32.ofInt 0)) rfl rfl rfl ?_
                first | have ga := j2.rc (j := s0 0 (b3 + 1)) (by omega) (by omega) | skip
                first | have gb := j2.lw (j := s0 0 (b3 + 1)) (by omega) (by omega) | skip
                have gm1_0 : s95 99 (26 + s0 0 (b3 + 1)) = s0 99 (26 + s0 0 (b3 + 1)) := (h_upo us95 rfl (26 + s0 0 (b3 + 1)))
                have gm1_1 : s95 99 (29 + s0 0 (b3 + 1)) = s0 99 (29 + s0 0 (b3 + 1)) := (h_upo us95 rfl (29 + s0 0 (b3 + 1)))
                exfalso
                omega
            · refine h_bipush (pc' := 6) (x := (Int32.ofInt (-4))) rfl rfl cb_m4 ?_
              refine h_goto (pc' := 12) rfl rfl ?_
              refine h_iret rfl rfl (h_Kv ?_)
              clear hz116
              refine h_istore (pc' := 31) (M := [(5, .int (Int32.ofInt (-4))), (0, .ref 98), (1, .int (Int32.ofInt 1)), (2, .int z113), (3, .int z101), (4, .int (Int32.ofInt 1))]) rfl rfl rfl rfl ?_
              refine h_aload_n (pc' := 32) rfl rfl rfl ?_
              refine h_getR (pc' := 35) rfl rfl rfl rfl rfl ?_
              refine h_iload_n (pc' := 36) rfl rfl rfl ?_
              refine h_iload (pc' := 38) rfl rfl rfl ?_
              refine h_zne (tg := 45) (pc' := 41) rfl rfl rfl ci_1 (fun c123 => ?_) (fun c123 => absurd c123 (by omega))
              refine h_iload_n (pc' := 46) rfl rfl rfl ?_
              refine h_bipush (pc' := 48) (x := (Int32.ofInt (-4))) rfl rfl cb_m4 ?_
              refine h_cne (tg := 55) (pc' := 51) rfl rfl rfl hz101 ci_m4 (fun c124 => absurd (Int.le_antisymm (by omega) (by omega)) c124) (fun c124 => ?_)
              refine h_iconst (pc' := 52) (x := (Int32.ofInt 0)) rfl rfl rfl ?_
              refine h_goto (pc' := 58) rfl rfl ?_
              refine h_iast (pc' := 59) rfl rfl rfl rfl hz113 (by omega) (by omega) ci_0 (h_fgt (E := fun s => s 64 1 = s0 64 1 ∧ s 98 11 = s0 98 11 ∧ s 64 4 = s0 64 4 ∧ s 98 16 = s0 98 16 ∧ s 10 8 = s0 10 8 ∧ s 98 1 = s0 98 1 ∧ s 10 9 = s0 10 9 ∧ s 98 2 = s0 98 2 ∧ s = h_up s95 99 (29 + (s0 0 (b3 + 1))) 0) _ (ip_99_7 Is95 (by omega) (by omega)) (Fs95.up rfl) ⟨es95.1, es95.2.1, es95.2.2.1, es95.2.2.2.1, es95.2.2.2.2.1, es95.2.2.2.2.2.1, es95.2.2.2.2.2.2.1, es95.2.2.2.2.2.2.2.1, rfl⟩ (fun s125 Is125 Fs125 (es125 : s125 64 1 = s0 64 1 ∧ s125 98 11 = s0 98 11 ∧ s125 64 4 = s0 64 4 ∧ s125 98 16 = s0 98 16 ∧ s125 10 8 = s0 10 8 ∧ s125 98 1 = s0 98 1 ∧ s125 10 9 = s0 10 9 ∧ s125 98 2 = s0 98 2 ∧ s125 = h_up s95 99 (29 + (s0 0 (b3 + 1))) 0) => ?_))
              clear es95
              have us125 := es125.2.2.2.2.2.2.2.2
              have Zs125 : ∀ i, s125 0 i = s0 0 i := fun i => (h_upo us125 rfl i).trans (Zs95 i)
              refine h_iload (pc' := 61) rfl rfl rfl ?_
              refine h_iret rfl rfl (h_Kv ?_)
              clear hz113
              refine h_iret rfl rfl (h_Kv ?_)
              clear hz101 hz97 hz99
              refine h_ceq (tg := 1441) (pc' := 678) rfl rfl rfl hz94 ci_m4 (fun c126 => ?_) (fun c126 => ?_)
              · clear hz94
                exact kk _ Is125 (by first | exact d_tape.le j0 (Int.le_antisymm (by omega) (by omega)) (by omega) (fun j => (h_upo us125 rfl j).trans ((h_upo us95 rfl j))) (fun j => (h_upo us125 rfl j).trans ((h_upo us95 rfl j))) | (exfalso; omega)) (Int.le_antisymm (by omega) (by omega)) (c_R.las j2 I0 (by omega) (by omega) (Int.le_antisymm (by omega) (by omega)) (by omega) (fun j => (h_upo us125 rfl j).trans ((h_upi us95 j)))  (fun j => (h_upi us125 j).trans (congrArg (fun z => if j = (29 + (s0 0 (b3 + 1))) then 0 else z) ((h_upo us95 rfl j))))  (fun p j n0 n1 => (h_upq us125 n1 j).trans ((h_upq us95 n0 j)))) (g_ti.e j3 ((h_upg us125 rfl).trans (h_upg us95 rfl))) (g_SH.e j4 ((h_upg us125 rfl).trans (h_upg us95 rfl)) ((h_upg us125 rfl).trans (h_upg us95 rfl)) ((h_upg us125 rfl).trans (h_upg us95 rfl)) ((h_upg us125 rfl).trans (h_upg us95 rfl)) ((h_upg us125 rfl).trans (h_upg us95 rfl)) ((h_upg us125 rfl).trans (h_upg us95 rfl)))
              · clear hz94
                refine h_iconst (pc' := 679) (x := (Int32.ofInt 0)) rfl rfl rfl ?_
                first | have ga := j2.rc (j := s0 0 (b3 + 1)) (by omega) (by omega) | skip
                first | have gb := j2.lw (j := s0 0 (b3 + 1)) (by omega) (by omega) | skip
                have gm1_0 : s95 99 (26 + s0 0 (b3 + 1)) = s0 99 (26 + s0 0 (b3 + 1)) := (h_upo us95 rfl (26 + s0 0 (b3 + 1)))
                have gm1_1 : s95 99 (29 + s0 0 (b3 + 1)) = s0 99 (29 + s0 0 (b3 + 1)) := (h_upo us95 rfl (29 + s0 0 (b3 + 1)))
                exfalso
                omega
          · refine h_aload_n (pc' := 63) rfl rfl rfl ?_
            refine h_getR (pc' := 66) rfl rfl rfl rfl rfl ?_
            refine h_iload_n (pc' := 67) rfl rfl rfl ?_
            refine h_call (sp := false) (pc' := 70) (M := [(0, .ref 10), (1, .int z6)]) rfl rfl rfl rfl rfl rfl rfl rfl ?_
            refine h_iload_n (pc' := 1) rfl rfl rfl ?_
            refine h_zlt (tg := 16) (pc' := 4) rfl rfl rfl hz6 (fun c127 => ?_) (fun c127 => ?_)
            · refine h_iconst (pc' := 17) (x := (Int32.ofInt 0)) rfl rfl rfl ?_
              refine h_zret rfl rfl ci_0 (by omega) (h_Kv ?_)
              refine h_zeq (tg := 97) (pc' := 73) rfl rfl rfl ci_0 (fun c128 => ?_) (fun c128 => absurd (Int.le_antisymm (by omega) (by omega)) c128)
              refine h_iconst (pc' := 98) (x := (Int32.ofInt (-1))) rfl rfl rfl ?_
              refine h_iret rfl rfl (h_Kv ?_)
              clear hz2 hz4 hz6
              refine h_aload_n (pc' := 657) rfl rfl rfl ?_
              refine h_aload_n (pc' := 658) rfl rfl rfl ?_
              refine h_iload_n (pc' := 659) rfl rfl rfl ?_
              refine h_iconst (pc' := 660) (x := (Int32.ofInt 1)) rfl rfl rfl ?_
              refine h_iadd (pc' := 661) rfl rfl hy3 ci_1 rfl (by omega) (by omega) (fun z129 hz129 => ?_)
              refine h_iald (pc' := 662) (v := s0 0 (b3 + 1)) rfl rfl rfl hz129 (by omega) (by omega) rfl (fun z130 hz130 => ?_)
              have tz130 := h_rgv hz130
              clear hz129
              refine h_aload_n (pc' := 663) rfl rfl rfl ?_
              refine h_iload_n (pc' := 664) rfl rfl rfl ?_
              refine h_iconst (pc' := 665) (x := (Int32.ofInt 2)) rfl rfl rfl ?_
              refine h_iadd (pc' := 666) rfl rfl hy3 ci_2 rfl (by omega) (by omega) (fun z131 hz131 => ?_)
              refine h_iald (pc' := 667) (v := s0 0 (b3 + 2)) rfl rfl rfl hz131 (by omega) (by omega) rfl (fun z132 hz132 => ?_)
              have tz132 := h_rgv hz132
              clear hz131
              refine h_aload_n (pc' := 668) rfl rfl rfl ?_
              refine h_iload_n (pc' := 669) rfl rfl rfl ?_
              refine h_iconst (pc' := 670) (x := (Int32.ofInt 3)) rfl rfl rfl ?_
              refine h_iadd (pc' := 671) rfl rfl hy3 ci_3 rfl (by omega) (by omega) (fun z133 hz133 => ?_)
              refine h_iald (pc' := 672) (v := s0 0 (b3 + 3)) rfl rfl rfl hz133 (by omega) (by omega) rfl (fun z134 hz134 => ?_)
              have tz134 := h_rgv hz134
              clear hz133
              refine h_call (sp := false) (pc' := 675) (M := [(0, .ref 98), (1, .int z130), (2, .int z132), (3, .int z134)]) rfl rfl rfl rfl rfl rfl rfl rfl ?_
              refine h_iload_n (pc' := 1) rfl rfl rfl ?_
              refine h_iconst (pc' := 2) (x := (Int32.ofInt 1)) rfl rfl rfl ?_
              refine h_cne (tg := 43) (pc' := 5) rfl rfl rfl hz132 ci_1 (fun c135 => absurd (Int.le_antisymm (by omega) (by omega)) c135) (fun c135 => ?_)
              refine h_aload_n (pc' := 6) rfl rfl rfl ?_
              refine h_aload_n (pc' := 7) rfl rfl rfl ?_
              refine h_iload_n (pc' := 8) rfl rfl rfl ?_
              refine h_call (sp := false) (pc' := 11) (M := [(0, .ref 98), (1, .int z130)]) rfl rfl rfl rfl rfl rfl rfl rfl ?_
              refine h_iload_n (pc' := 1) rfl rfl rfl ?_
              refine h_i2l (pc' := 2) rfl rfl hz130 (fun z136 hz136 => ?_)
              refine h_lconst (pc' := 3) (x := (Int64.ofInt 0)) rfl rfl rfl ?_
              refine h_aload_n (pc' := 4) rfl rfl rfl ?_
              refine h_getI (pc' := 7) (v := s0 98 2) rfl rfl rfl rfl rfl rfl (fun z137 hz137 => ?_)
              have tz137 := tf_98_2 I0
              refine h_iconst (pc' := 8) (x := (Int32.ofInt 1)) rfl rfl rfl ?_
              refine h_isub (pc' := 9) rfl rfl hz137 ci_1 rfl (by omega) (by omega) (fun z138 hz138 => ?_)
              clear hz137
              refine h_i2l (pc' := 10) rfl rfl hz138 (fun z139 hz139 => ?_)
              clear hz138
              refine h_calls (pc' := 13) (M := [(0, .long z136), (2, .long (Int64.ofInt 0)), (4, .long z139)]) rfl rfl rfl rfl rfl rfl ?_
              refine h_lload_n (pc' := 1) rfl rfl rfl ?_
              refine h_lload_n (pc' := 2) rfl rfl rfl ?_
              refine h_lcmp (pc' := 3) rfl rfl hz136 cl_0 (fun z140 hz140 => ?_)
              refine h_zlt (tg := 17) (pc' := 6) rfl rfl rfl rfl (fun c141 => absurd c141 (by omega)) (fun c141 => ?_)
              replace c141 := (h_lcr hz140).2.1 c141
              clear hz140
              refine h_lload_n (pc' := 7) rfl rfl rfl ?_
              refine h_lload (pc' := 9) rfl rfl rfl ?_
              refine h_lcmp (pc' := 10) rfl rfl hz136 hz139 (fun z142 hz142 => ?_)
              refine h_zgt (tg := 17) (pc' := 13) rfl rfl rfl rfl (fun c143 => absurd c143 (by omega)) (fun c143 => ?_)
              replace c143 := (h_lcr hz142).2.2.1 c143
              clear hz142
              refine h_iconst (pc' := 14) (x := (Int32.ofInt 1)) rfl rfl rfl ?_
              refine h_goto (pc' := 18) rfl rfl ?_
              refine h_zret rfl rfl ci_1 (by omega) (h_Kv ?_)
              clear hz136 hz139
              refine h_zret rfl rfl ci_1 (by omega) (h_Kv ?_)
              refine h_zeq (tg := 32) (pc' := 14) rfl rfl rfl ci_1 (fun c144 => absurd c144 (by omega)) (fun c144 => ?_)
              refine h_iload_n (pc' := 15) rfl rfl rfl ?_
              refine h_bipush (pc' := 17) (x := (Int32.ofInt (-4))) rfl rfl cb_m4 ?_
              refine h_ceq (tg := 28) (pc' := 20) rfl rfl rfl hz134 ci_m4 (fun c145 => absurd c145 (by omega)) (fun c145 => ?_)
              refine h_aload_n (pc' := 21) rfl rfl rfl ?_
              refine h_iload_n (pc' := 22) rfl rfl rfl ?_
              refine h_call (sp := false) (pc' := 25) (M := [(0, .ref 98), (1, .int z134)]) rfl rfl rfl rfl rfl rfl rfl rfl ?_
              refine h_iload_n (pc' := 1) rfl rfl rfl ?_
              refine h_i2l (pc' := 2) rfl rfl hz134 (fun z146 hz146 => ?_)
              refine h_lconst (pc' := 3) (x := (Int64.ofInt 0)) rfl rfl rfl ?_
              refine h_aload_n (pc' := 4) rfl rfl rfl ?_
              refine h_getI (pc' := 7) (v := s0 98 1) rfl rfl rfl rfl rfl rfl (fun z147 hz147 => ?_)
              have tz147 := tf_98_1 I0
              refine h_iconst (pc' := 8) (x := (Int32.ofInt 1)) rfl rfl rfl ?_
              refine h_isub (pc' := 9) rfl rfl hz147 ci_1 rfl (by omega) (by omega) (fun z148 hz148 => ?_)
              clear hz147
              refine h_i2l (pc' := 10) rfl rfl hz148 (fun z149 hz149 => ?_)
              clear hz148
              refine h_calls (pc' := 13) (M := [(0, .long z146), (2, .long (Int64.ofInt 0)), (4, .long z149)]) rfl rfl rfl rfl rfl rfl ?_
              refine h_lload_n (pc' := 1) rfl rfl rfl ?_
              refine h_lload_n (pc' := 2) rfl rfl rfl ?_
              refine h_lcmp (pc' := 3) rfl rfl hz146 cl_0 (fun z150 hz150 => ?_)
              refine h_zlt (tg := 17) (pc' := 6) rfl rfl rfl rfl (fun c151 => ?_) (fun c151 => absurd c151 (by omega))
              replace c151 := (h_lcr hz150).1 c151
              clear hz150
              refine h_iconst (pc' := 18) (x := (Int32.ofInt 0)) rfl rfl rfl ?_
              refine h_zret rfl rfl ci_0 (by omega) (h_Kv ?_)
              clear hz146 hz149
              refine h_zret rfl rfl ci_0 (by omega) (h_Kv ?_)
              refine h_zeq (tg := 32) (pc' := 28) rfl rfl rfl ci_0 (fun c152 => ?_) (fun c152 => absurd (Int.le_antisymm (by omega) (by omega)) c152)
              refine h_iconst (pc' := 33) (x := (Int32.ofInt 0)) rfl rfl rfl ?_
              refine h_bipush (pc' := 35) (x := (Int32.ofInt 29)) rfl rfl cb_29 ?_
              refine h_iload_n (pc' := 36) rfl rfl rfl ?_
              refine h_iadd (pc' := 37) rfl rfl ci_29 hz130 rfl (by have g0 := h_rgv hz130; omega) (by have g0 := h_rgv hz130; omega) (fun z153 hz153 => ?_)
              refine h_iload_n (pc' := 38) rfl rfl rfl ?_
              refine h_iconst (pc' := 39) (x := (Int32.ofInt 1)) rfl rfl rfl ?_
              refine h_call (sp := false) (pc' := 42) (M := [(0, .ref 98), (1, .int (Int32.ofInt 0)), (2, .int z153), (3, .int z134), (4, .int (Int32.ofInt 1))]) rfl rfl rfl rfl rfl rfl rfl rfl ?_
              refine h_iload_n (pc' := 1) rfl rfl rfl ?_
              refine h_zne (tg := 6) (pc' := 4) rfl rfl rfl ci_0 (fun c154 => absurd (Int.le_antisymm (by omega) (by omega)) c154) (fun c154 => ?_)
              refine h_iconst (pc' := 5) (x := (Int32.ofInt (-1))) rfl rfl rfl ?_
              refine h_iret rfl rfl (h_Kv ?_)
              clear hz153
              refine h_iret rfl rfl (h_Kv ?_)
              clear hz130 hz132 hz134
              refine h_ceq (tg := 1441) (pc' := 678) rfl rfl rfl ci_m1 ci_m1 (fun c155 => ?_) (fun c155 => absurd (Int.le_antisymm (by omega) (by omega)) c155)
              exact kk _ I0 (by first | exact d_tape.le j0 (Int.le_antisymm (by omega) (by omega)) (by omega) (fun j => rfl) (fun j => rfl) | (exfalso; omega)) (Int.le_antisymm (by omega) (by omega)) j2 (g_ti.e j3 rfl) (g_SH.e j4 rfl rfl rfl rfl rfl rfl)
            · refine h_iload_n (pc' := 5) rfl rfl rfl ?_
              refine h_aload_n (pc' := 6) rfl rfl rfl ?_
              refine h_getI (pc' := 9) (v := s0 10 8) rfl rfl rfl rfl rfl rfl (fun z156 hz156 => ?_)
              have tz156 := tf_10_8 I0
              refine h_cge (tg := 16) (pc' := 12) rfl rfl rfl hz6 hz156 (fun c157 => ?_) (fun c157 => ?_)
              · clear hz156
                refine h_iconst (pc' := 17) (x := (Int32.ofInt 0)) rfl rfl rfl ?_
                refine h_zret rfl rfl ci_0 (by omega) (h_Kv ?_)
                refine h_zeq (tg := 97) (pc' := 73) rfl rfl rfl ci_0 (fun c158 => ?_) (fun c158 => absurd (Int.le_antisymm (by omega) (by omega)) c158)
                refine h_iconst (pc' := 98) (x := (Int32.ofInt (-1))) rfl rfl rfl ?_
                refine h_iret rfl rfl (h_Kv ?_)
                clear hz2 hz4 hz6
                refine h_aload_n (pc' := 657) rfl rfl rfl ?_
                refine h_aload_n (pc' := 658) rfl rfl rfl ?_
                refine h_iload_n (pc' := 659) rfl rfl rfl ?_
                refine h_iconst (pc' := 660) (x := (Int32.ofInt 1)) rfl rfl rfl ?_
                refine h_iadd (pc' := 661) rfl rfl hy3 ci_1 rfl (by omega) (by omega) (fun z159 hz159 => ?_)
                refine h_iald (pc' := 662) (v := s0 0 (b3 + 1)) rfl rfl rfl hz159 (by omega) (by omega) rfl (fun z160 hz160 => ?_)
                have tz160 := h_rgv hz160
                clear hz159
                refine h_aload_n (pc' := 663) rfl rfl rfl ?_
                refine h_iload_n (pc' := 664) rfl rfl rfl ?_
                refine h_iconst (pc' := 665) (x := (Int32.ofInt 2)) rfl rfl rfl ?_
                refine h_iadd (pc' := 666) rfl rfl hy3 ci_2 rfl (by omega) (by omega) (fun z161 hz161 => ?_)
                refine h_iald (pc' := 667) (v := s0 0 (b3 + 2)) rfl rfl rfl hz161 (by omega) (by omega) rfl (fun z162 hz162 => ?_)
                have tz162 := h_rgv hz162
                clear hz161
                refine h_aload_n (pc' := 668) rfl rfl rfl ?_
                refine h_iload_n (pc' := 669) rfl rfl rfl ?_
                refine h_iconst (pc' := 670) (x := (Int32.ofInt 3)) rfl rfl rfl ?_
                refine h_iadd (pc' := 671) rfl rfl hy3 ci_3 rfl (by omega) (by omega) (fun z163 hz163 => ?_)
                refine h_iald (pc' := 672) (v := s0 0 (b3 + 3)) rfl rfl rfl hz163 (by omega) (by omega) rfl (fun z164 hz164 => ?_)
                have tz164 := h_rgv hz164
                clear hz163
                refine h_call (sp := false) (pc' := 675) (M := [(0, .ref 98), (1, .int z160), (2, .int z162), (3, .int z164)]) rfl rfl rfl rfl rfl rfl rfl rfl ?_
                refine h_iload_n (pc' := 1) rfl rfl rfl ?_
                refine h_iconst (pc' := 2) (x := (Int32.ofInt 1)) rfl rfl rfl ?_
                refine h_cne (tg := 43) (pc' := 5) rfl rfl rfl hz162 ci_1 (fun c165 => absurd (Int.le_antisymm (by omega) (by omega)) c165) (fun c165 => ?_)
                refine h_aload_n (pc' := 6) rfl rfl rfl ?_
                refine h_aload_n (pc' := 7) rfl rfl rfl ?_
                refine h_iload_n (pc' := 8) rfl rfl rfl ?_
                refine h_call (sp := false) (pc' := 11) (M := [(0, .ref 98), (1, .int z160)]) rfl rfl rfl rfl rfl rfl rfl rfl ?_
                refine h_iload_n (pc' := 1) rfl rfl rfl ?_
                refine h_i2l (pc' := 2) rfl rfl hz160 (fun z166 hz166 => ?_)
                refine h_lconst (pc' := 3) (x := (Int64.ofInt 0)) rfl rfl rfl ?_
                refine h_aload_n (pc' := 4) rfl rfl rfl ?_
                refine h_getI (pc' := 7) (v := s0 98 2) rfl rfl rfl rfl rfl rfl (fun z167 hz167 => ?_)
                have tz167 := tf_98_2 I0
                refine h_iconst (pc' := 8) (x := (Int32.ofInt 1)) rfl rfl rfl ?_
                refine h_isub (pc' := 9) rfl rfl hz167 ci_1 rfl (by omega) (by omega) (fun z168 hz168 => ?_)
                clear hz167
                refine h_i2l (pc' := 10) rfl rfl hz168 (fun z169 hz169 => ?_)
                clear hz168
                refine h_calls (pc' := 13) (M := [(0, .long z166), (2, .long (Int64.ofInt 0)), (4, .long z169)]) rfl rfl rfl rfl rfl rfl ?_
                refine h_lload_n (pc' := 1) rfl rfl rfl ?_
                refine h_lload_n (pc' := 2) rfl rfl rfl ?_
                refine h_lcmp (pc' := 3) rfl rfl hz166 cl_0 (fun z170 hz170 => ?_)
                refine h_zlt (tg := 17) (pc' := 6) rfl rfl rfl rfl (fun c171 => absurd c171 (by omega)) (fun c171 => ?_)
                replace c171 := (h_lcr hz170).2.1 c171
                clear hz170
                refine h_lload_n (pc' := 7) rfl rfl rfl ?_
                refine h_lload (pc' := 9) rfl rfl rfl ?_
                refine h_lcmp (pc' := 10) rfl rfl hz166 hz169 (fun z172 hz172 => ?_)
                refine h_zgt (tg := 17) (pc' := 13) rfl rfl rfl rfl (fun c173 => absurd c173 (by omega)) (fun c173 => ?_)
                replace c173 := (h_lcr hz172).2.2.1 c173
                clear hz172
                refine h_iconst (pc' := 14) (x := (Int32.ofInt 1)) rfl rfl rfl ?_
                refine h_goto (pc' := 18) rfl rfl ?_
                refine h_zret rfl rfl ci_1 (by omega) (h_Kv ?_)
                clear hz166 hz169
                refine h_zret rfl rfl ci_1 (by omega) (h_Kv ?_)
                refine h_zeq (tg := 32) (pc' := 14) rfl rfl rfl ci_1 (fun c174 => absurd c174 (by omega)) (fun c174 => ?_)
                refine h_iload_n (pc' := 15) rfl rfl rfl ?_
                refine h_bipush (pc' := 17) (x := (Int32.ofInt (-4))) rfl rfl cb_m4 ?_
                refine h_ceq (tg := 28) (pc' := 20) rfl rfl rfl hz164 ci_m4 (fun c175 => absurd c175 (by omega)) (fun c175 => ?_)
                refine h_aload_n (pc' := 21) rfl rfl rfl ?_
                refine h_iload_n (pc' := 22) rfl rfl rfl ?_
                refine h_call (sp := false) (pc' := 25) (M := [(0, .ref 98), (1, .int z164)]) rfl rfl rfl rfl rfl rfl rfl rfl ?_
                refine h_iload_n (pc' := 1) rfl rfl rfl ?_
                refine h_i2l (pc' := 2) rfl rfl hz164 (fun z176 hz176 => ?_)
                refine h_lconst (pc' := 3) (x := (Int64.ofInt 0)) rfl rfl rfl ?_
                refine h_aload_n (pc' := 4) rfl rfl rfl ?_
                refine h_getI (pc' := 7) (v := s0 98 1) rfl rfl rfl rfl rfl rfl (fun z177 hz177 => ?_)
                have tz177 := tf_98_1 I0
                refine h_iconst (pc' := 8) (x := (Int32.ofInt 1)) rfl rfl rfl ?_
                refine h_isub (pc' := 9) rfl rfl hz177 ci_1 rfl (by omega) (by omega) (fun z178 hz178 => ?_)
                clear hz177
                refine h_i2l (pc' := 10) rfl rfl hz178 (fun z179 hz179 => ?_)
                clear hz178
                refine h_calls (pc' := 13) (M := [(0, .long z176), (2, .long (Int64.ofInt 0)), (4, .long z179)]) rfl rfl rfl rfl rfl rfl ?_
                refine h_lload_n (pc' := 1) rfl rfl rfl ?_
                refine h_lload_n (pc' := 2) rfl rfl rfl ?_
                refine h_lcmp (pc' := 3) rfl rfl hz176 cl_0 (fun z180 hz180 => ?_)
                refine h_zlt (tg := 17) (pc' := 6) rfl rfl rfl rfl (fun c181 => absurd c181 (by omega)) (fun c181 => ?_)
                replace c181 := (h_lcr hz180).2.1 c181
                clear hz180
                refine h_lload_n (pc' := 7) rfl rfl rfl ?_
                refine h_lload (pc' := 9) rfl rfl rfl ?_
                refine h_lcmp (pc' := 10) rfl rfl hz176 hz179 (fun z182 hz182 => ?_)
                refine h_zgt (tg := 17) (pc' := 13) rfl rfl rfl rfl (fun c183 => ?_) (fun c183 => absurd c183 (by omega))
                replace c183 := (h_lcr hz182).2.2.2.1 c183
                clear hz182
                refine h_iconst (pc' := 18) (x := (Int32.ofInt 0)) rfl rfl rfl ?_
                refine h_zret rfl rfl ci_0 (by omega) (h_Kv ?_)
                clear hz176 hz179
                refine h_zret rfl rfl ci_0 (by omega) (h_Kv ?_)
                refine h_zeq (tg := 32) (pc' := 28) rfl rfl rfl ci_0 (fun c184 => ?_) (fun c184 => absurd (Int.le_antisymm (by omega) (by omega)) c184)
                refine h_iconst (pc' := 33) (x := (Int32.ofInt 0)) rfl rfl rfl ?_
                refine h_bipush (pc' := 35) (x := (Int32.ofInt 29)) rfl rfl cb_29 ?_
                refine h_iload_n (pc' := 36) rfl rfl rfl ?_
                refine h_iadd (pc' := 37) rfl rfl ci_29 hz160 rfl (by have g0 := h_rgv hz160; omega) (by have g0 := h_rgv hz160; omega) (fun z185 hz185 => ?_)
                refine h_iload_n (pc' := 38) rfl rfl rfl ?_
                refine h_iconst (pc' := 39) (x := (Int32.ofInt 1)) rfl rfl rfl ?_
                refine h_call (sp := false) (pc' := 42) (M := [(0, .ref 98), (1, .int (Int32.ofInt 0)), (2, .int z185), (3, .int z164), (4, .int (Int32.ofInt 1))]) rfl rfl rfl rfl rfl rfl rfl rfl ?_
                refine h_iload_n (pc' := 1) rfl rfl rfl ?_
                refine h_zne (tg := 6) (pc' := 4) rfl rfl rfl ci_0 (fun c186 => absurd (Int.le_antisymm (by omega) (by omega)) c186) (fun c186 => ?_)
                refine h_iconst (pc' := 5) (x := (Int32.ofInt (-1))) rfl rfl rfl ?_
                refine h_iret rfl rfl (h_Kv ?_)
                clear hz185
                refine h_iret rfl rfl (h_Kv ?_)
                clear hz160 hz162 hz164
                refine h_ceq (tg := 1441) (pc' := 678) rfl rfl rfl ci_m1 ci_m1 (fun c187 => ?_) (fun c187 => absurd (Int.le_antisymm (by omega) (by omega)) c187)
                exact kk _ I0 (by first | exact d_tape.le j0 (Int.le_antisymm (by omega) (by omega)) (by omega) (fun j => rfl) (fun j => rfl) | (exfalso; omega)) (Int.le_antisymm (by omega) (by omega)) j2 (g_ti.e j3 rfl) (g_SH.e j4 rfl rfl rfl rfl rfl rfl)
              · clear hz156
                refine h_iconst (pc' := 13) (x := (Int32.ofInt 1)) rfl rfl rfl ?_
                refine h_goto (pc' := 17) rfl rfl ?_
                refine h_zret rfl rfl ci_1 (by omega) (h_Kv ?_)
                refine h_zeq (tg := 97) (pc' := 73) rfl rfl rfl ci_1 (fun c188 => absurd c188 (by omega)) (fun c188 => ?_)
                refine h_aload_n (pc' := 74) rfl rfl rfl ?_
                refine h_getR (pc' := 77) rfl rfl rfl rfl rfl ?_
                refine h_getR (pc' := 80) rfl rfl rfl rfl rfl ?_
                refine h_iload_n (pc' := 81) rfl rfl rfl ?_
                refine h_iald (pc' := 82) (v := s0 20 (s0 0 (b3 + 1))) rfl rfl rfl hz2 (by omega) (by omega) rfl (fun z189 hz189 => ?_)
                have tz189 := ty_20 I0 (s0 0 (b3 + 1))
                refine h_istore (pc' := 84) (M := [(4, .int z189), (0, .ref 9), (1, .int z2), (2, .int z4), (3, .int z6)]) rfl rfl rfl rfl ?_
                refine h_aload_n (pc' := 85) rfl rfl rfl ?_
                refine h_getR (pc' := 88) rfl rfl rfl rfl rfl ?_
                refine h_getR (pc' := 91) rfl rfl rfl rfl rfl ?_
                refine h_iload_n (pc' := 92) rfl rfl rfl ?_
                refine h_iload_n (pc' := 93) rfl rfl rfl ?_
                refine h_iast (pc' := 94) rfl rfl rfl rfl hz2 (by omega) (by omega) hz6 (h_fgt (E := fun s => s 64 1 = s0 64 1 ∧ s 98 11 = s0 98 11 ∧ s 64 4 = s0 64 4 ∧ s 98 16 = s0 98 16 ∧ s 10 8 = s0 10 8 ∧ s 98 1 = s0 98 1 ∧ s 10 9 = s0 10 9 ∧ s 98 2 = s0 98 2 ∧ s = h_up s0 20 (s0 0 (b3 + 1)) (s0 0 (b3 + 3))) _ (in_20 I0 (by omega)) (F0_.up rfl) ⟨rfl, rfl, rfl, rfl, rfl, rfl, rfl, rfl, rfl⟩ (fun s190 Is190 Fs190 (es190 : s190 64 1 = s0 64 1 ∧ s190 98 11 = s0 98 11 ∧ s190 64 4 = s0 64 4 ∧ s190 98 16 = s0 98 16 ∧ s190 10 8 = s0 10 8 ∧ s190 98 1 = s0 98 1 ∧ s190 10 9 = s0 10 9 ∧ s190 98 2 = s0 98 2 ∧ s190 = h_up s0 20 (s0 0 (b3 + 1)) (s0 0 (b3 + 3))) => ?_))
                have us190 := es190.2.2.2.2.2.2.2.2
                have Zs190 : ∀ i, s190 0 i = s0 0 i := fun i => (h_upo us190 rfl i).trans rfl
                refine h_iload (pc' := 96) rfl rfl rfl ?_
                refine h_iret rfl rfl (h_Kv ?_)
                clear hz2 hz4 hz6
                refine h_aload_n (pc' := 657) rfl rfl rfl ?_
                refine h_aload_n (pc' := 658) rfl rfl rfl ?_
                refine h_iload_n (pc' := 659) rfl rfl rfl ?_
                refine h_iconst (pc' := 660) (x := (Int32.ofInt 1)) rfl rfl rfl ?_
                refine h_iadd (pc' := 661) rfl rfl hy3 ci_1 rfl (by omega) (by omega) (fun z191 hz191 => ?_)
                refine h_iald (pc' := 662) (v := s0 0 (b3 + 1)) rfl rfl rfl hz191 (by omega) (by omega) (Zs190 _) (fun z192 hz192 => ?_)
                have tz192 := h_rgv hz192
                clear hz191
                refine h_aload_n (pc' := 663) rfl rfl rfl ?_
                refine h_iload_n (pc' := 664) rfl rfl rfl ?_
                refine h_iconst (pc' := 665) (x := (Int32.ofInt 2)) rfl rfl rfl ?_
                refine h_iadd (pc' := 666) rfl rfl hy3 ci_2 rfl (by omega) (by omega) (fun z193 hz193 => ?_)
                refine h_iald (pc' := 667) (v := s0 0 (b3 + 2)) rfl rfl rfl hz193 (by omega) (by omega) (Zs190 _) (fun z194 hz194 => ?_)
                have tz194 := h_rgv hz194
                clear hz193
                refine h_aload_n (pc' := 668) rfl rfl rfl ?_
                refine h_iload_n (pc' := 669) rfl rfl rfl ?_
                refine h_iconst (pc' := 670) (x := (Int32.ofInt 3)) rfl rfl rfl ?_
                refine h_iadd (pc' := 671) rfl rfl hy3 ci_3 rfl (by omega) (by omega) (fun z195 hz195 => ?_)
                refine h_iald (pc' := 672) (v := s0 0 (b3 + 3)) rfl rfl rfl hz195 (by omega) (by omega) (Zs190 _) (fun z196 hz196 => ?_)
                have tz196 := h_rgv hz196
                clear hz195
                refine h_call (sp := false) (pc' := 675) (M := [(0, .ref 98), (1, .int z192), (2, .int z194), (3, .int z196)]) rfl rfl rfl rfl rfl rfl rfl rfl ?_
                refine h_iload_n (pc' := 1) rfl rfl rfl ?_
                refine h_iconst (pc' := 2) (x := (Int32.ofInt 1)) rfl rfl rfl ?_
                refine h_cne (tg := 43) (pc' := 5) rfl rfl rfl hz194 ci_1 (fun c197 => absurd (Int.le_antisymm (by omega) (by omega)) c197) (fun c197 => ?_)
                refine h_aload_n (pc' := 6) rfl rfl rfl ?_
                refine h_aload_n (pc' := 7) rfl rfl rfl ?_
                refine h_iload_n (pc' := 8) rfl rfl rfl ?_
                refine h_call (sp := false) (pc' := 11) (M := [(0, .ref 98), (1, .int z192)]) rfl rfl rfl rfl rfl rfl rfl rfl ?_
                refine h_iload_n (pc' := 1) rfl rfl rfl ?_
                refine h_i2l (pc' := 2) rfl rfl hz192 (fun z198 hz198 => ?_)
                refine h_lconst (pc' := 3) (x := (Int64.ofInt 0)) rfl rfl rfl ?_
                refine h_aload_n (pc' := 4) rfl rfl rfl ?_
                refine h_getI (pc' := 7) (v := s0 98 2) rfl rfl rfl rfl rfl es190.2.2.2.2.2.2.2.1 (fun z199 hz199 => ?_)
                have tz199 := tf_98_2 I0
                refine h_iconst (pc' := 8) (x := (Int32.ofInt 1)) rfl rfl rfl ?_
                refine h_isub (pc' := 9) rfl rfl hz199 ci_1 rfl (by omega) (by omega) (fun z200 hz200 => ?_)
                clear hz199
                refine h_i2l (pc' := 10) rfl rfl hz200 (fun z201 hz201 => ?_)
                clear hz200
                refine h_calls (pc' := 13) (M := [(0, .long z198), (2, .long (Int64.ofInt 0)), (4, .long z201)]) rfl rfl rfl rfl rfl rfl ?_
                refine h_lload_n (pc' := 1) rfl rfl rfl ?_
                refine h_lload_n (pc' := 2) rfl rfl rfl ?_
                refine h_lcmp (pc' := 3) rfl rfl hz198 cl_0 (fun z202 hz202 => ?_)
                refine h_zlt (tg := 17) (pc' := 6) rfl rfl rfl rfl (fun c203 => absurd c203 (by omega)) (fun c203 => ?_)
                replace c203 := (h_lcr hz202).2.1 c203
                clear hz202
                refine h_lload_n (pc' := 7) rfl rfl rfl ?_
                refine h_lload (pc' := 9) rfl rfl rfl ?_
                refine h_lcmp (pc' := 10) rfl rfl hz198 hz201 (fun z204 hz204 => ?_)
                refine h_zgt (tg := 17) (pc' := 13) rfl rfl rfl rfl (fun c205 => absurd c205 (by omega)) (fun c205 => ?_)
                replace c205 := (h_lcr hz204).2.2.1 c205
                clear hz204
                refine h_iconst (pc' := 14) (x := (Int32.ofInt 1)) rfl rfl rfl ?_
                refine h_goto (pc' := 18) rfl rfl ?_
                refine h_zret rfl rfl ci_1 (by omega) (h_Kv ?_)
                clear hz198 hz201
                refine h_zret rfl rfl ci_1 (by omega) (h_Kv ?_)
                refine h_zeq (tg := 32) (pc' := 14) rfl rfl rfl ci_1 (fun c206 => absurd c206 (by omega)) (fun c206 => ?_)
                refine h_iload_n (pc' := 15) rfl rfl rfl ?_
                refine h_bipush (pc' := 17) (x := (Int32.ofInt (-4))) rfl rfl cb_m4 ?_
                refine h_ceq (tg := 28) (pc' := 20) rfl rfl rfl hz196 ci_m4 (fun c207 => absurd c207 (by omega)) (fun c207 => ?_)
                refine h_aload_n (pc' := 21) rfl rfl rfl ?_
                refine h_iload_n (pc' := 22) rfl rfl rfl ?_
                refine h_call (sp := false) (pc' := 25) (M := [(0, .ref 98), (1, .int z196)]) rfl rfl rfl rfl rfl rfl rfl rfl ?_
                refine h_iload_n (pc' := 1) rfl rfl rfl ?_
                refine h_i2l (pc' := 2) rfl rfl hz196 (fun z208 hz208 => ?_)
                refine h_lconst (pc' := 3) (x := (Int64.ofInt 0)) rfl rfl rfl ?_
                refine h_aload_n (pc' := 4) rfl rfl rfl ?_
                refine h_getI (pc' := 7) (v := s0 98 1) rfl rfl rfl rfl rfl es190.2.2.2.2.2.1 (fun z209 hz209 => ?_)
                have tz209 := tf_98_1 I0
                refine h_iconst (pc' := 8) (x := (Int32.ofInt 1)) rfl rfl rfl ?_
                refine h_isub (pc' := 9) rfl rfl hz209 ci_1 rfl (by omega) (by omega) (fun z210 hz210 => ?_)
                clear hz209
                refine h_i2l (pc' := 10) rfl rfl hz210 (fun z211 hz211 => ?_)
                clear hz210
                refine h_calls (pc' := 13) (M := [(0, .long z208), (2, .long (Int64.ofInt 0)), (4, .long z211)]) rfl rfl rfl rfl rfl rfl ?_
                refine h_lload_n (pc' := 1) rfl rfl rfl ?_
                refine h_lload_n (pc' := 2) rfl rfl rfl ?_
                refine h_lcmp (pc' := 3) rfl rfl hz208 cl_0 (fun z212 hz212 => ?_)
                refine h_zlt (tg := 17) (pc' := 6) rfl rfl rfl rfl (fun c213 => absurd c213 (by omega)) (fun c213 => ?_)
                replace c213 := (h_lcr hz212).2.1 c213
                clear hz212
                refine h_lload_n (pc' := 7) rfl rfl rfl ?_
                refine h_lload (pc' := 9) rfl rfl rfl ?_
                refine h_lcmp (pc' := 10) rfl rfl hz208 hz211 (fun z214 hz214 => ?_)
                refine h_zgt (tg := 17) (pc' := 13) rfl rfl rfl rfl (fun c215 => absurd c215 (by omega)) (fun c215 => ?_)
                replace c215 := (h_lcr hz214).2.2.1 c215
                clear hz214
                refine h_iconst (pc' := 14) (x := (Int32.ofInt 1)) rfl rfl rfl ?_
                refine h_goto (pc' := 18) rfl rfl ?_
                refine h_zret rfl rfl ci_1 (by omega) (h_Kv ?_)
                clear hz208 hz211
                refine h_zret rfl rfl ci_1 (by omega) (h_Kv ?_)
                refine h_zeq (tg := 32) (pc' := 28) rfl rfl rfl ci_1 (fun c216 => absurd c216 (by omega)) (fun c216 => ?_)
                refine h_iconst (pc' := 29) (x := (Int32.ofInt 1)) rfl rfl rfl ?_
                refine h_goto (pc' := 33) rfl rfl ?_
                refine h_bipush (pc' := 35) (x := (Int32.ofInt 29)) rfl rfl cb_29 ?_
                refine h_iload_n (pc' := 36) rfl rfl rfl ?_
                refine h_iadd (pc' := 37) rfl rfl ci_29 hz192 rfl (by have g0 := h_rgv hz192; omega) (by have g0 := h_rgv hz192; omega) (fun z217 hz217 => ?_)
                refine h_iload_n (pc' := 38) rfl rfl rfl ?_
                refine h_iconst (pc' := 39) (x := (Int32.ofInt 1)) rfl rfl rfl ?_
                refine h_call (sp := false) (pc' := 42) (M := [(0, .ref 98), (1, .int (Int32.ofInt 1)), (2, .int z217), (3, .int z196), (4, .int (Int32.ofInt 1))]) rfl rfl rfl rfl rfl rfl rfl rfl ?_
                refine h_iload_n (pc' := 1) rfl rfl rfl ?_
                refine h_zne (tg := 6) (pc' := 4) rfl rfl rfl ci_1 (fun c218 => ?_) (fun c218 => absurd c218 (by omega))
                refine h_iload (pc' := 8) rfl rfl rfl ?_
                refine h_zne (tg := 20) (pc' := 11) rfl rfl rfl ci_1 (fun c219 => ?_) (fun c219 => absurd c219 (by omega))
                refine h_aload_n (pc' := 21) rfl rfl rfl ?_
                refine h_getR (pc' := 24) rfl rfl rfl rfl rfl ?_
                refine h_iload_n (pc' := 25) rfl rfl rfl ?_
                refine h_iald (pc' := 26) (v := s190 99 (29 + (s0 0 (b3 + 1)))) rfl rfl rfl hz217 (by omega) (by omega) rfl (fun z220 hz220 => ?_)
                have tz220 := ty_99_7 Is190 (29 + (s0 0 (b3 + 1))) (by omega)
                refine h_calls (pc' := 29) (M := [(0, .int z220)]) rfl rfl rfl rfl rfl rfl ?_
                refine h_iload_n (pc' := 1) rfl rfl rfl ?_
                refine h_zne (tg := 9) (pc' := 4) rfl rfl rfl hz220 (fun c221 => ?_) (fun c221 => ?_)
                · refine h_iload_n (pc' := 10) rfl rfl rfl ?_
                  refine h_iconst (pc' := 11) (x := (Int32.ofInt 1)) rfl rfl rfl ?_
                  refine h_isub (pc' := 12) rfl rfl hz220 ci_1 rfl (by omega) (by omega) (fun z222 hz222 => ?_)
                  refine h_iret rfl rfl (h_Kv ?_)
                  clear hz220
                  refine h_istore (pc' := 31) (M := [(5, .int z222), (0, .ref 98), (1, .int (Int32.ofInt 1)), (2, .int z217), (3, .int z196), (4, .int (Int32.ofInt 1))]) rfl rfl rfl rfl ?_
                  refine h_aload_n (pc' := 32) rfl rfl rfl ?_
                  refine h_getR (pc' := 35) rfl rfl rfl rfl rfl ?_
                  refine h_iload_n (pc' := 36) rfl rfl rfl ?_
                  refine h_iload (pc' := 38) rfl rfl rfl ?_
                  refine h_zne (tg := 45) (pc' := 41) rfl rfl rfl ci_1 (fun c223 => ?_) (fun c223 => absurd c223 (by omega))
                  refine h_iload_n (pc' := 46) rfl rfl rfl ?_
                  refine h_bipush (pc' := 48) (x := (Int32.ofInt (-4))) rfl rfl cb_m4 ?_
                  refine h_cne (tg := 55) (pc' := 51) rfl rfl rfl hz196 ci_m4 (fun c224 => ?_) (fun c224 => absurd c224 (by omega))
                  refine h_iload_n (pc' := 56) rfl rfl rfl ?_
                  refine h_iconst (pc' := 57) (x := (Int32.ofInt 1)) rfl rfl rfl ?_
                  refine h_iadd (pc' := 58) rfl rfl hz196 ci_1 rfl (by have g0 := h_rgv hz196; omega) (by have g0 := h_rgv hz196; omega) (fun z225 hz225 => ?_)
                  refine h_iast (pc' := 59) rfl rfl rfl rfl hz217 (by omega) (by omega) hz225 (h_fgt (E := fun s => s 64 1 = s0 64 1 ∧ s 98 11 = s0 98 11 ∧ s 64 4 = s0 64 4 ∧ s 98 16 = s0 98 16 ∧ s 10 8 = s0 10 8 ∧ s 98 1 = s0 98 1 ∧ s 10 9 = s0 10 9 ∧ s 98 2 = s0 98 2 ∧ s = h_up s190 99 (29 + (s0 0 (b3 + 1))) ((s0 0 (b3 + 3)) + 1)) _ (ip_99_7 Is190 (by omega) (by omega)) (Fs190.up rfl) ⟨es190.1, es190.2.1, es190.2.2.1, es190.2.2.2.1, es190.2.2.2.2.1, es190.2.2.2.2.2.1, es190.2.2.2.2.2.2.1, es190.2.2.2.2.2.2.2.1, rfl⟩ (fun s226 Is226 Fs226 (es226 : s226 64 1 = s0 64 1 ∧ s226 98 11 = s0 98 11 ∧ s226 64 4 = s0 64 4 ∧ s226 98 16 = s0 98 16 ∧ s226 10 8 = s0 10 8 ∧ s226 98 1 = s0 98 1 ∧ s226 10 9 = s0 10 9 ∧ s226 98 2 = s0 98 2 ∧ s226 = h_up s190 99 (29 + (s0 0 (b3 + 1))) ((s0 0 (b3 + 3)) + 1)) => ?_))
                  clear es190
                  have us226 := es226.2.2.2.2.2.2.2.2
                  have Zs226 : ∀ i, s226 0 i = s0 0 i := fun i => (h_upo us226 rfl i).trans (Zs190 i)
                  clear hz225
                  refine h_iload (pc' := 61) rfl rfl rfl ?_
                  refine h_iret rfl rfl (h_Kv ?_)
                  clear hz217
                  refine h_iret rfl rfl (h_Kv ?_)
                  clear hz192 hz194 hz196
                  refine h_ceq (tg := 1441) (pc' := 678) rfl rfl rfl hz189 hz222 (fun c227 => ?_) (fun c227 => ?_)
                  · clear hz189 hz222
                    exact kk _ Is226 (by first | exact d_tape.le j0 (Int.le_antisymm (by omega) (by omega)) (by omega) (fun j => (h_upo us226 rfl j).trans ((h_upo us190 rfl j))) (fun j => (h_upo us226 rfl j).trans ((h_upo us190 rfl j))) | (exfalso; omega)) (Int.le_antisymm (by omega) (by omega)) (c_R.las j2 I0 (by omega) (by omega) (Int.le_antisymm (by omega) (by omega)) (by omega) (fun j => (h_upo us226 rfl j).trans ((h_upi us190 j)))  (fun j => (h_upi us226 j).trans (congrArg (fun z => if j = (29 + (s0 0 (b3 + 1))) then ((s0 0 (b3 + 3)) + 1) else z) ((h_upo us190 rfl j))))  (fun p j n0 n1 => (h_upq us226 n1 j).trans ((h_upq us190 n0 j)))) (g_ti.e j3 ((h_upg us226 rfl).trans (h_upg us190 rfl))) (g_SH.e j4 ((h_upg us226 rfl).trans (h_upg us190 rfl)) ((h_upg us226 rfl).trans (h_upg us190 rfl)) ((h_upg us226 rfl).trans (h_upg us190 rfl)) ((h_upg us226 rfl).trans (h_upg us190 rfl)) ((h_upg us226 rfl).trans (h_upg us190 rfl)) ((h_upg us226 rfl).trans (h_upg us190 rfl)))
                  · clear hz189 hz222
                    refine h_iconst (pc' := 679) (x := (Int32.ofInt 0)) rfl rfl rfl ?_
                    first | have ga := j2.rc (j := s0 0 (b3 + 1)) (by omega) (by omega) | skip
                    first | have gb := j2.lw (j := s0 0 (b3 + 1)) (by omega) (by omega) | skip
                    have gm1_0 : s190 99 (26 + s0 0 (b3 + 1)) = s0 99 (26 + s0 0 (b3 + 1)) := (h_upo us190 rfl (26 + s0 0 (b3 + 1)))
                    have gm1_1 : s190 99 (29 + s0 0 (b3 + 1)) = s0 99 (29 + s0 0 (b3 + 1)) := (h_upo us190 rfl (29 + s0 0 (b3 + 1)))
                    exfalso
                    omega
                · refine h_bipush (pc' := 6) (x := (Int32.ofInt (-4))) rfl rfl cb_m4 ?_
                  refine h_goto (pc' := 12) rfl rfl ?_
                  refine h_iret rfl rfl (h_Kv ?_)
                  clear hz220
                  refine h_istore (pc' := 31) (M := [(5, .int (Int32.ofInt (-4))), (0, .ref 98), (1, .int (Int32.ofInt 1)), (2, .int z217), (3, .int z196), (4, .int (Int32.ofInt 1))]) rfl rfl rfl rfl ?_
                  refine h_aload_n (pc' := 32) rfl rfl rfl ?_
                  refine h_getR (pc' := 35) rfl rfl rfl rfl rfl ?_
                  refine h_iload_n (pc' := 36) rfl rfl rfl ?_
                  refine h_iload (pc' := 38) rfl rfl rfl ?_
                  refine h_zne (tg := 45) (pc' := 41) rfl rfl rfl ci_1 (fun c228 => ?_) (fun c228 => absurd c228 (by omega))
                  refine h_iload_n (pc' := 46) rfl rfl rfl ?_
                  refine h_bipush (pc' := 48) (x := (Int32.ofInt (-4))) rfl rfl cb_m4 ?_
                  refine h_cne (tg := 55) (pc' := 51) rfl rfl rfl hz196 ci_m4 (fun c229 => ?_) (fun c229 => absurd c229 (by omega))
                  refine h_iload_n (pc' := 56) rfl rfl rfl ?_
                  refine h_iconst (pc' := 57) (x := (Int32.ofInt 1)) rfl rfl rfl ?_
                  refine h_iadd (pc' := 58) rfl rfl hz196 ci_1 rfl (by have g0 := h_rgv hz196; omega) (by have g0 := h_rgv hz196; omega) (fun z230 hz230 => ?_)
                  refine h_iast (pc' := 59) rfl rfl rfl rfl hz217 (by omega) (by omega) hz230 (h_fgt (E := fun s => s 64 1 = s0 64 1 ∧ s 98 11 = s0 98 11 ∧ s 64 4 = s0 64 4 ∧ s 98 16 = s0 98 16 ∧ s 10 8 = s0 10 8 ∧ s 98 1 = s0 98 1 ∧ s 10 9 = s0 10 9 ∧ s 98 2 = s0 98 2 ∧ s = h_up s190 99 (29 + (s0 0 (b3 + 1))) ((s0 0 (b3 + 3)) + 1)) _ (ip_99_7 Is190 (by omega) (by omega)) (Fs190.up rfl) ⟨es190.1, es190.2.1, es190.2.2.1, es190.2.2.2.1, es190.2.2.2.2.1, es190.2.2.2.2.2.1, es190.2.2.2.2.2.2.1, es190.2.2.2.2.2.2.2.1, rfl⟩ (fun s231 Is231 Fs231 (es231 : s231 64 1 = s0 64 1 ∧ s231 98 11 = s0 98 11 ∧ s231 64 4 = s0 64 4 ∧ s231 98 16 = s0 98 16 ∧ s231 10 8 = s0 10 8 ∧ s231 98 1 = s0 98 1 ∧ s231 10 9 = s0 10 9 ∧ s231 98 2 = s0 98 2 ∧ s231 = h_up s190 99 (29 + (s0 0 (b3 + 1))) ((s0 0 (b3 + 3)) + 1)) => ?_))
                  clear es190
                  have us231 := es231.2.2.2.2.2.2.2.2
                  have Zs231 : ∀ i, s231 0 i = s0 0 i := fun i => (h_upo us231 rfl i).trans (Zs190 i)
                  clear hz230
                  refine h_iload (pc' := 61) rfl rfl rfl ?_
                  refine h_iret rfl rfl (h_Kv ?_)
                  clear hz217
                  refine h_iret rfl rfl (h_Kv ?_)
                  clear hz192 hz194 hz196
                  refine h_ceq (tg := 1441) (pc' := 678) rfl rfl rfl hz189 ci_m4 (fun c232 => ?_) (fun c232 => ?_)
                  · clear hz189
                    exact kk _ Is231 (by first | exact d_tape.le j0 (Int.le_antisymm (by omega) (by omega)) (by omega) (fun j => (h_upo us231 rfl j).trans ((h_upo us190 rfl j))) (fun j => (h_upo us231 rfl j).trans ((h_upo us190 rfl j))) | (exfalso; omega)) (Int.le_antisymm (by omega) (by omega)) (c_R.las j2 I0 (by omega) (by omega) (Int.le_antisymm (by omega) (by omega)) (by omega) (fun j => (h_upo us231 rfl j).trans ((h_upi us190 j)))  (fun j => (h_upi us231 j).trans (congrArg (fun z => if j = (29 + (s0 0 (b3 + 1))) then ((s0 0 (b3 + 3)) + 1) else z) ((h_upo us190 rfl j))))  (fun p j n0 n1 => (h_upq us231 n1 j).trans ((h_upq us190 n0 j)))) (g_ti.e j3 ((h_upg us231 rfl).trans (h_upg us190 rfl))) (g_SH.e j4 ((h_upg us231 rfl).trans (h_upg us190 rfl)) ((h_upg us231 rfl).trans (h_upg us190 rfl)) ((h_upg us231 rfl).trans (h_upg us190 rfl)) ((h_upg us231 rfl).trans (h_upg us190 rfl)) ((h_upg us231 rfl).trans (h_upg us190 rfl)) ((h_upg us231 rfl).trans (h_upg us190 rfl)))
                  · clear hz189
                    refine h_iconst (pc' := 679) (x := (Int32.ofInt 0)) rfl rfl rfl ?_
                    first | have ga := j2.rc (j := s0 0 (b3 + 1)) (by omega) (by omega) | skip
                    first | have gb := j2.lw (j := s0 0 (b3 + 1)) (by omega) (by omega) | skip
                    have gm1_0 : s190 99 (26 + s0 0 (b3 + 1)) = s0 99 (26 + s0 0 (b3 + 1)) := (h_upo us190 rfl (26 + s0 0 (b3 + 1)))
                    have gm1_1 : s190 99 (29 + s0 0 (b3 + 1)) = s0 99 (29 + s0 0 (b3 + 1)) := (h_upo us190 rfl (29 + s0 0 (b3 + 1)))
                    exfalso
                    omega
      · refine h_iload_n (pc' := 18) rfl rfl rfl ?_
        refine h_zlt (tg := 51) (pc' := 21) rfl rfl rfl hz6 (fun c233 => ?_) (fun c233 => ?_)
        · refine h_iload_n (pc' := 52) rfl rfl rfl ?_
          refine h_iconst (pc' := 53) (x := (Int32.ofInt 1)) rfl rfl rfl ?_
          refine h_cne (tg := 97) (pc' := 56) rfl rfl rfl hz4 ci_1 (fun c234 => ?_) (fun c234 => absurd c234 (by omega))
          refine h_iconst (pc' := 98) (x := (Int32.ofInt (-1))) rfl rfl rfl ?_
          refine h_iret rfl rfl (h_Kv ?_)
          clear hz2 hz4 hz6
          refine h_aload_n (pc' := 657) rfl rfl rfl ?_
          refine h_aload_n (pc' := 658) rfl rfl rfl ?_
          refine h_iload_n (pc' := 659) rfl rfl rfl ?_
          refine h_iconst (pc' := 660) (x := (Int32.ofInt 1)) rfl rfl rfl ?_
          refine h_iadd (pc' := 661) rfl rfl hy3 ci_1 rfl (by omega) (by omega) (fun z235 hz235 => ?_)
          refine h_iald (pc' := 662) (v := s0 0 (b3 + 1)) rfl rfl rfl hz235 (by omega) (by omega) rfl (fun z236 hz236 => ?_)
          have tz236 := h_rgv hz236
          clear hz235
          refine h_aload_n (pc' := 663) rfl rfl rfl ?_
          refine h_iload_n (pc' := 664) rfl rfl rfl ?_
          refine h_iconst (pc' := 665) (x := (Int32.ofInt 2)) rfl rfl rfl ?_
          refine h_iadd (pc' := 666) rfl rfl hy3 ci_2 rfl (by omega) (by omega) (fun z237 hz237 => ?_)
          refine h_iald (pc' := 667) (v := s0 0 (b3 + 2)) rfl rfl rfl hz237 (by omega) (by omega) rfl (fun z238 hz238 => ?_)
          have tz238 := h_rgv hz238
          clear hz237
          refine h_aload_n (pc' := 668) rfl rfl rfl ?_
          refine h_iload_n (pc' := 669) rfl rfl rfl ?_
          refine h_iconst (pc' := 670) (x := (Int32.ofInt 3)) rfl rfl rfl ?_
          refine h_iadd (pc' := 671) rfl rfl hy3 ci_3 rfl (by omega) (by omega) (fun z239 hz239 => ?_)
          refine h_iald (pc' := 672) (v := s0 0 (b3 + 3)) rfl rfl rfl hz239 (by omega) (by omega) rfl (fun z240 hz240 => ?_)
          have tz240 := h_rgv hz240
          clear hz239
          refine h_call (sp := false) (pc' := 675) (M := [(0, .ref 98), (1, .int z236), (2, .int z238), (3, .int z240)]) rfl rfl rfl rfl rfl rfl rfl rfl ?_
          refine h_iload_n (pc' := 1) rfl rfl rfl ?_
          refine h_iconst (pc' := 2) (x := (Int32.ofInt 1)) rfl rfl rfl ?_
          refine h_cne (tg := 43) (pc' := 5) rfl rfl rfl hz238 ci_1 (fun c241 => ?_) (fun c241 => absurd c241 (by omega))
          refine h_aload_n (pc' := 44) rfl rfl rfl ?_
          refine h_aload_n (pc' := 45) rfl rfl rfl ?_
          refine h_iload_n (pc' := 46) rfl rfl rfl ?_
          refine h_call (sp := false) (pc' := 49) (M := [(0, .ref 98), (1, .int z236)]) rfl rfl rfl rfl rfl rfl rfl rfl ?_
          refine h_iload_n (pc' := 1) rfl rfl rfl ?_
          refine h_i2l (pc' := 2) rfl rfl hz236 (fun z242 hz242 => ?_)
          refine h_lconst (pc' := 3) (x := (Int64.ofInt 0)) rfl rfl rfl ?_
          refine h_aload_n (pc' := 4) rfl rfl rfl ?_
          refine h_getI (pc' := 7) (v := s0 98 2) rfl rfl rfl rfl rfl rfl (fun z243 hz243 => ?_)
          have tz243 := tf_98_2 I0
          refine h_iconst (pc' := 8) (x := (Int32.ofInt 1)) rfl rfl rfl ?_
          refine h_isub (pc' := 9) rfl rfl hz243 ci_1 rfl (by omega) (by omega) (fun z244 hz244 => ?_)
          clear hz243
          refine h_i2l (pc' := 10) rfl rfl hz244 (fun z245 hz245 => ?_)
          clear hz244
          refine h_calls (pc' := 13) (M := [(0, .long z242), (2, .long (Int64.ofInt 0)), (4, .long z245)]) rfl rfl rfl rfl rfl rfl ?_
          refine h_lload_n (pc' := 1) rfl rfl rfl ?_
          refine h_lload_n (pc' := 2) rfl rfl rfl ?_
          refine h_lcmp (pc' := 3) rfl rfl hz242 cl_0 (fun z246 hz246 => ?_)
          refine h_zlt (tg := 17) (pc' := 6) rfl rfl rfl rfl (fun c247 => absurd c247 (by omega)) (fun c247 => ?_)
          replace c247 := (h_lcr hz246).2.1 c247
          clear hz246
          refine h_lload_n (pc' := 7) rfl rfl rfl ?_
          refine h_lload (pc' := 9) rfl rfl rfl ?_
          refine h_lcmp (pc' := 10) rfl rfl hz242 hz245 (fun z248 hz248 => ?_)
          refine h_zgt (tg := 17) (pc' := 13) rfl rfl rfl rfl (fun c249 => absurd c249 (by omega)) (fun c249 => ?_)
          replace c249 := (h_lcr hz248).2.2.1 c249
          clear hz248
          refine h_iconst (pc' := 14) (x := (Int32.ofInt 1)) rfl rfl rfl ?_
          refine h_goto (pc' := 18) rfl rfl ?_
          refine h_zret rfl rfl ci_1 (by omega) (h_Kv ?_)
          clear hz242 hz245
          refine h_zret rfl rfl ci_1 (by omega) (h_Kv ?_)
          refine h_zeq (tg := 72) (pc' := 52) rfl rfl rfl ci_1 (fun c250 => absurd c250 (by omega)) (fun c250 => ?_)
          refine h_iload_n (pc' := 53) rfl rfl rfl ?_
          refine h_zne (tg := 72) (pc' := 56) rfl rfl rfl hz238 (fun c251 => absurd (Int.le_antisymm (by omega) (by omega)) c251) (fun c251 => ?_)
          refine h_iload_n (pc' := 57) rfl rfl rfl ?_
          refine h_i2l (pc' := 58) rfl rfl hz240 (fun z252 hz252 => ?_)
          refine h_lconst (pc' := 59) (x := (Int64.ofInt 0)) rfl rfl rfl ?_
          refine h_ldc2 (pc' := 62) (x := (Int64.ofInt 9)) rfl rfl rfl ?_
          refine h_calls (pc' := 65) (M := [(0, .long z252), (2, .long (Int64.ofInt 0)), (4, .long (Int64.ofInt 9))]) rfl rfl rfl rfl rfl rfl ?_
          refine h_lload_n (pc' := 1) rfl rfl rfl ?_
          refine h_lload_n (pc' := 2) rfl rfl rfl ?_
          refine h_lcmp (pc' := 3) rfl rfl hz252 cl_0 (fun z253 hz253 => ?_)
          refine h_zlt (tg := 17) (pc' := 6) rfl rfl rfl rfl (fun c254 => ?_) (fun c254 => absurd c254 (by omega))
          replace c254 := (h_lcr hz253).1 c254
          clear hz253
          refine h_iconst (pc' := 18) (x := (Int32.ofInt 0)) rfl rfl rfl ?_
          refine h_zret rfl rfl ci_0 (by omega) (h_Kv ?_)
          clear hz252
          refine h_zeq (tg := 72) (pc' := 68) rfl rfl rfl ci_0 (fun c255 => ?_) (fun c255 => absurd (Int.le_antisymm (by omega) (by omega)) c255)
          refine h_iconst (pc' := 73) (x := (Int32.ofInt 0)) rfl rfl rfl ?_
          refine h_bipush (pc' := 75) (x := (Int32.ofInt 26)) rfl rfl cb_26 ?_
          refine h_iload_n (pc' := 76) rfl rfl rfl ?_
          refine h_iadd (pc' := 77) rfl rfl ci_26 hz236 rfl (by have g0 := h_rgv hz236; omega) (by have g0 := h_rgv hz236; omega) (fun z256 hz256 => ?_)
          refine h_iload_n (pc' := 78) rfl rfl rfl ?_
          refine h_iconst (pc' := 79) (x := (Int32.ofInt 0)) rfl rfl rfl ?_
          refine h_call (sp := false) (pc' := 82) (M := [(0, .ref 98), (1, .int (Int32.ofInt 0)), (2, .int z256), (3, .int z240), (4, .int (Int32.ofInt 0))]) rfl rfl rfl rfl rfl rfl rfl rfl ?_
          refine h_iload_n (pc' := 1) rfl rfl rfl ?_
          refine h_zne (tg := 6) (pc' := 4) rfl rfl rfl ci_0 (fun c257 => absurd (Int.le_antisymm (by omega) (by omega)) c257) (fun c257 => ?_)
          refine h_iconst (pc' := 5) (x := (Int32.ofInt (-1))) rfl rfl rfl ?_
          refine h_iret rfl rfl (h_Kv ?_)
          clear hz256
          refine h_iret rfl rfl (h_Kv ?_)
          clear hz236 hz238 hz240
          refine h_ceq (tg := 1441) (pc' := 678) rfl rfl rfl ci_m1 ci_m1 (fun c258 => ?_) (fun c258 => absurd (Int.le_antisymm (by omega) (by omega)) c258)
          exact kk _ I0 (by first | exact d_tape.le j0 (Int.le_antisymm (by omega) (by omega)) (by omega) (fun j => rfl) (fun j => rfl) | (exfalso; omega)) (Int.le_antisymm (by omega) (by omega)) j2 (g_ti.e j3 rfl) (g_SH.e j4 rfl rfl rfl rfl rfl rfl)
        · refine h_iload_n (pc' := 22) rfl rfl rfl ?_
          refine h_bipush (pc' := 24) (x := (Int32.ofInt 9)) rfl rfl cb_9 ?_
          refine h_cgt (tg := 51) (pc' := 27) rfl rfl rfl hz6 ci_9 (fun c259 => ?_) (fun c259 => ?_)
          · refine h_iload_n (pc' := 52) rfl rfl rfl ?_
            refine h_iconst (pc' := 53) (x := (Int32.ofInt 1)) rfl rfl rfl ?_
            refine h_cne (tg := 97) (pc' := 56) rfl rfl rfl hz4 ci_1 (fun c260 => ?_) (fun c260 => absurd c260 (by omega))
            refine h_iconst (pc' := 98) (x := (Int32.ofInt (-1))) rfl rfl rfl ?_
            refine h_iret rfl rfl (h_Kv ?_)
            clear hz2 hz4 hz6
            refine h_aload_n (pc' := 657) rfl rfl rfl ?_
            refine h_aload_n (pc' := 658) rfl rfl rfl ?_
            refine h_iload_n (pc' := 659) rfl rfl rfl ?_
            refine h_iconst (pc' := 660) (x := (Int32.ofInt 1)) rfl rfl rfl ?_
            refine h_iadd (pc' := 661) rfl rfl hy3 ci_1 rfl (by omega) (by omega) (fun z261 hz261 => ?_)
            refine h_iald (pc' := 662) (v := s0 0 (b3 + 1)) rfl rfl rfl hz261 (by omega) (by omega) rfl (fun z262 hz262 => ?_)
            have tz262 := h_rgv hz262
            clear hz261
            refine h_aload_n (pc' := 663) rfl rfl rfl ?_
            refine h_iload_n (pc' := 664) rfl rfl rfl ?_
            refine h_iconst (pc' := 665) (x := (Int32.ofInt 2)) rfl rfl rfl ?_
            refine h_iadd (pc' := 666) rfl rfl hy3 ci_2 rfl (by omega) (by omega) (fun z263 hz263 => ?_)
            refine h_iald (pc' := 667) (v := s0 0 (b3 + 2)) rfl rfl rfl hz263 (by omega) (by omega) rfl (fun z264 hz264 => ?_)
            have tz264 := h_rgv hz264
            clear hz263
            refine h_aload_n (pc' := 668) rfl rfl rfl ?_
            refine h_iload_n (pc' := 669) rfl rfl rfl ?_
            refine h_iconst (pc' := 670) (x := (Int32.ofInt 3)) rfl rfl rfl ?_
            refine h_iadd (pc' := 671) rfl rfl hy3 ci_3 rfl (by omega) (by omega) (fun z265 hz265 => ?_)
            refine h_iald (pc' := 672) (v := s0 0 (b3 + 3)) rfl rfl rfl hz265 (by omega) (by omega) rfl (fun z266 hz266 => ?_)
            have tz266 := h_rgv hz266
            clear hz265
            refine h_call (sp := false) (pc' := 675) (M := [(0, .ref 98), (1, .int z262), (2, .int z264), (3, .int z266)]) rfl rfl rfl rfl rfl rfl rfl rfl ?_
            refine h_iload_n (pc' := 1) rfl rfl rfl ?_
            refine h_iconst (pc' := 2) (x := (Int32.ofInt 1)) rfl rfl rfl ?_
            refine h_cne (tg := 43) (pc' := 5) rfl rfl rfl hz264 ci_1 (fun c267 => ?_) (fun c267 => absurd c267 (by omega))
            refine h_aload_n (pc' := 44) rfl rfl rfl ?_
            refine h_aload_n (pc' := 45) rfl rfl rfl ?_
            refine h_iload_n (pc' := 46) rfl rfl rfl ?_
            refine h_call (sp := false) (pc' := 49) (M := [(0, .ref 98), (1, .int z262)]) rfl rfl rfl rfl rfl rfl rfl rfl ?_
            refine h_iload_n (pc' := 1) rfl rfl rfl ?_
            refine h_i2l (pc' := 2) rfl rfl hz262 (fun z268 hz268 => ?_)
            refine h_lconst (pc' := 3) (x := (Int64.ofInt 0)) rfl rfl rfl ?_
            refine h_aload_n (pc' := 4) rfl rfl rfl ?_
            refine h_getI (pc' := 7) (v := s0 98 2) rfl rfl rfl rfl rfl rfl (fun z269 hz269 => ?_)
            have tz269 := tf_98_2 I0
            refine h_iconst (pc' := 8) (x := (Int32.ofInt 1)) rfl rfl rfl ?_
            refine h_isub (pc' := 9) rfl rfl hz269 ci_1 rfl (by omega) (by omega) (fun z270 hz270 => ?_)
            clear hz269
            refine h_i2l (pc' := 10) rfl rfl hz270 (fun z271 hz271 => ?_)
            clear hz270
            refine h_calls (pc' := 13) (M := [(0, .long z268), (2, .long (Int64.ofInt 0)), (4, .long z271)]) rfl rfl rfl rfl rfl rfl ?_
            refine h_lload_n (pc' := 1) rfl rfl rfl ?_
            refine h_lload_n (pc' := 2) rfl rfl rfl ?_
            refine h_lcmp (pc' := 3) rfl rfl hz268 cl_0 (fun z272 hz272 => ?_)
            refine h_zlt (tg := 17) (pc' := 6) rfl rfl rfl rfl (fun c273 => absurd c273 (by omega)) (fun c273 => ?_)
            replace c273 := (h_lcr hz272).2.1 c273
            clear hz272
            refine h_lload_n (pc' := 7) rfl rfl rfl ?_
            refine h_lload (pc' := 9) rfl rfl rfl ?_
            refine h_lcmp (pc' := 10) rfl rfl hz268 hz271 (fun z274 hz274 => ?_)
            refine h_zgt (tg := 17) (pc' := 13) rfl rfl rfl rfl (fun c275 => absurd c275 (by omega)) (fun c275 => ?_)
            replace c275 := (h_lcr hz274).2.2.1 c275
            clear hz274
            refine h_iconst (pc' := 14) (x := (Int32.ofInt 1)) rfl rfl rfl ?_
            refine h_goto (pc' := 18) rfl rfl ?_
            refine h_zret rfl rfl ci_1 (by omega) (h_Kv ?_)
            clear hz268 hz271
            refine h_zret rfl rfl ci_1 (by omega) (h_Kv ?_)
            refine h_zeq (tg := 72) (pc' := 52) rfl rfl rfl ci_1 (fun c276 => absurd c276 (by omega)) (fun c276 => ?_)
            refine h_iload_n (pc' := 53) rfl rfl rfl ?_
            refine h_zne (tg := 72) (pc' := 56) rfl rfl rfl hz264 (fun c277 => absurd (Int.le_antisymm (by omega) (by omega)) c277) (fun c277 => ?_)
            refine h_iload_n (pc' := 57) rfl rfl rfl ?_
            refine h_i2l (pc' := 58) rfl rfl hz266 (fun z278 hz278 => ?_)
            refine h_lconst (pc' := 59) (x := (Int64.ofInt 0)) rfl rfl rfl ?_
            refine h_ldc2 (pc' := 62) (x := (Int64.ofInt 9)) rfl rfl rfl ?_
            refine h_calls (pc' := 65) (M := [(0, .long z278), (2, .long (Int64.ofInt 0)), (4, .long (Int64.ofInt 9))]) rfl rfl rfl rfl rfl rfl ?_
            refine h_lload_n (pc' := 1) rfl rfl rfl ?_
            refine h_lload_n (pc' := 2) rfl rfl rfl ?_
            refine h_lcmp (pc' := 3) rfl rfl hz278 cl_0 (fun z279 hz279 => ?_)
            refine h_zlt (tg := 17) (pc' := 6) rfl rfl rfl rfl (fun c280 => absurd c280 (by omega)) (fun c280 => ?_)
            replace c280 := (h_lcr hz279).2.1 c280
            clear hz279
            refine h_lload_n (pc' := 7) rfl rfl rfl ?_
            refine h_lload (pc' := 9) rfl rfl rfl ?_
            refine h_lcmp (pc' := 10) rfl rfl hz278 cl_9 (fun z281 hz281 => ?_)
            refine h_zgt (tg := 17) (pc' := 13) rfl rfl rfl rfl (fun c282 => ?_) (fun c282 => absurd c282 (by omega))
            replace c282 := (h_lcr hz281).2.2.2.1 c282
            clear hz281
            refine h_iconst (pc' := 18) (x := (Int32.ofInt 0)) rfl rfl rfl ?_
            refine h_zret rfl rfl ci_0 (by omega) (h_Kv ?_)
            clear hz278
            refine h_zeq (tg := 72) (pc' := 68) rfl rfl rfl ci_0 (fun c283 => ?_) (fun c283 => absurd (Int.le_antisymm (by omega) (by omega)) c283)
            refine h_iconst (pc' := 73) (x := (Int32.ofInt 0)) rfl rfl rfl ?_
            refine h_bipush (pc' := 75) (x := (Int32.ofInt 26)) rfl rfl cb_26 ?_
            refine h_iload_n (pc' := 76) rfl rfl rfl ?_
            refine h_iadd (pc' := 77) rfl rfl ci_26 hz262 rfl (by have g0 := h_rgv hz262; omega) (by have g0 := h_rgv hz262; omega) (fun z284 hz284 => ?_)
            refine h_iload_n (pc' := 78) rfl rfl rfl ?_
            refine h_iconst (pc' := 79) (x := (Int32.ofInt 0)) rfl rfl rfl ?_
            refine h_call (sp := false) (pc' := 82) (M := [(0, .ref 98), (1, .int (Int32.ofInt 0)), (2, .int z284), (3, .int z266), (4, .int (Int32.ofInt 0))]) rfl rfl rfl rfl rfl rfl rfl rfl ?_
            refine h_iload_n (pc' := 1) rfl rfl rfl ?_
            refine h_zne (tg := 6) (pc' := 4) rfl rfl rfl ci_0 (fun c285 => absurd (Int.le_antisymm (by omega) (by omega)) c285) (fun c285 => ?_)
            refine h_iconst (pc' := 5) (x := (Int32.ofInt (-1))) rfl rfl rfl ?_
            refine h_iret rfl rfl (h_Kv ?_)
            clear hz284
            refine h_iret rfl rfl (h_Kv ?_)
            clear hz262 hz264 hz266
            refine h_ceq (tg := 1441) (pc' := 678) rfl rfl rfl ci_m1 ci_m1 (fun c286 => ?_) (fun c286 => absurd (Int.le_antisymm (by omega) (by omega)) c286)
            exact kk _ I0 (by first | exact d_tape.le j0 (Int.le_antisymm (by omega) (by omega)) (by omega) (fun j => rfl) (fun j => rfl) | (exfalso; omega)) (Int.le_antisymm (by omega) (by omega)) j2 (g_ti.e j3 rfl) (g_SH.e j4 rfl rfl rfl rfl rfl rfl)
          · refine h_aload_n (pc' := 28) rfl rfl rfl ?_
            refine h_getR (pc' := 31) rfl rfl rfl rfl rfl ?_
            refine h_getR (pc' := 34) rfl rfl rfl rfl rfl ?_
            refine h_iload_n (pc' := 35) rfl rfl rfl ?_
            refine h_iald (pc' := 36) (v := s0 19 (s0 0 (b3 + 1))) rfl rfl rfl hz2 (by omega) (by omega) rfl (fun z287 hz287 => ?_)
            have tz287 := ty_19 I0 (s0 0 (b3 + 1))
            refine h_istore (pc' := 38) (M := [(4, .int z287), (0, .ref 9), (1, .int z2), (2, .int z4), (3, .int z6)]) rfl rfl rfl rfl ?_
            refine h_aload_n (pc' := 39) rfl rfl rfl ?_
            refine h_getR (pc' := 42) rfl rfl rfl rfl rfl ?_
            refine h_getR (pc' := 45) rfl rfl rfl rfl rfl ?_
            refine h_iload_n (pc' := 46) rfl rfl rfl ?_
            refine h_iload_n (pc' := 47) rfl rfl rfl ?_
            refine h_iast (pc' := 48) rfl rfl rfl rfl hz2 (by omega) (by omega) hz6 (h_fgt (E := fun s => s 64 1 = s0 64 1 ∧ s 98 11 = s0 98 11 ∧ s 64 4 = s0 64 4 ∧ s 98 16 = s0 98 16 ∧ s 10 8 = s0 10 8 ∧ s 98 1 = s0 98 1 ∧ s 10 9 = s0 10 9 ∧ s 98 2 = s0 98 2 ∧ s = h_up s0 19 (s0 0 (b3 + 1)) (s0 0 (b3 + 3))) _ (in_19 I0 (by omega)) (F0_.up rfl) ⟨rfl, rfl, rfl, rfl, rfl, rfl, rfl, rfl, rfl⟩ (fun s288 Is288 Fs288 (es288 : s288 64 1 = s0 64 1 ∧ s288 98 11 = s0 98 11 ∧ s288 64 4 = s0 64 4 ∧ s288 98 16 = s0 98 16 ∧ s288 10 8 = s0 10 8 ∧ s288 98 1 = s0 98 1 ∧ s288 10 9 = s0 10 9 ∧ s288 98 2 = s0 98 2 ∧ s288 = h_up s0 19 (s0 0 (b3 + 1)) (s0 0 (b3 + 3))) => ?_))
            have us288 := es288.2.2.2.2.2.2.2.2
            have Zs288 : ∀ i, s288 0 i = s0 0 i := fun i => (h_upo us288 rfl i).trans rfl
            refine h_iload (pc' := 50) rfl rfl rfl ?_
            refine h_iret rfl rfl (h_Kv ?_)
            clear hz2 hz4 hz6
            refine h_aload_n (pc' := 657) rfl rfl rfl ?_
            refine h_aload_n (pc' := 658) rfl rfl rfl ?_
            refine h_iload_n (pc' := 659) rfl rfl rfl ?_
            refine h_iconst (pc' := 660) (x := (Int32.ofInt 1)) rfl rfl rfl ?_
            refine h_iadd (pc' := 661) rfl rfl hy3 ci_1 rfl (by omega) (by omega) (fun z289 hz289 => ?_)
            refine h_iald (pc' := 662) (v := s0 0 (b3 + 1)) rfl rfl rfl hz289 (by omega) (by omega) (Zs288 _) (fun z290 hz290 => ?_)
            have tz290 := h_rgv hz290
            clear hz289
            refine h_aload_n (pc' := 663) rfl rfl rfl ?_
            refine h_iload_n (pc' := 664) rfl rfl rfl ?_
            refine h_iconst (pc' := 665) (x := (Int32.ofInt 2)) rfl rfl rfl ?_
            refine h_iadd (pc' := 666) rfl rfl hy3 ci_2 rfl (by omega) (by omega) (fun z291 hz291 => ?_)
            refine h_iald (pc' := 667) (v := s0 0 (b3 + 2)) rfl rfl rfl hz291 (by omega) (by omega) (Zs288 _) (fun z292 hz292 => ?_)
            have tz292 := h_rgv hz292
            clear hz291
            refine h_aload_n (pc' := 668) rfl rfl rfl ?_
            refine h_iload_n (pc' := 669) rfl rfl rfl ?_
            refine h_iconst (pc' := 670) (x := (Int32.ofInt 3)) rfl rfl rfl ?_
            refine h_iadd (pc' := 671) rfl rfl hy3 ci_3 rfl (by omega) (by omega) (fun z293 hz293 => ?_)
            refine h_iald (pc' := 672) (v := s0 0 (b3 + 3)) rfl rfl rfl hz293 (by omega) (by omega) (Zs288 _) (fun z294 hz294 => ?_)
            have tz294 := h_rgv hz294
            clear hz293
            refine h_call (sp := false) (pc' := 675) (M := [(0, .ref 98), (1, .int z290), (2, .int z292), (3, .int z294)]) rfl rfl rfl rfl rfl rfl rfl rfl ?_
            refine h_iload_n (pc' := 1) rfl rfl rfl ?_
            refine h_iconst (pc' := 2) (x := (Int32.ofInt 1)) rfl rfl rfl ?_
            refine h_cne (tg := 43) (pc' := 5) rfl rfl rfl hz292 ci_1 (fun c295 => ?_) (fun c295 => absurd c295 (by omega))
            refine h_aload_n (pc' := 44) rfl rfl rfl ?_
            refine h_aload_n (pc' := 45) rfl rfl rfl ?_
            refine h_iload_n (pc' := 46) rfl rfl rfl ?_
            refine h_call (sp := false) (pc' := 49) (M := [(0, .ref 98), (1, .int z290)]) rfl rfl rfl rfl rfl rfl rfl rfl ?_
            refine h_iload_n (pc' := 1) rfl rfl rfl ?_
            refine h_i2l (pc' := 2) rfl rfl hz290 (fun z296 hz296 => ?_)
            refine h_lconst (pc' := 3) (x := (Int64.ofInt 0)) rfl rfl rfl ?_
            refine h_aload_n (pc' := 4) rfl rfl rfl ?_
            refine h_getI (pc' := 7) (v := s0 98 2) rfl rfl rfl rfl rfl es288.2.2.2.2.2.2.2.1 (fun z297 hz297 => ?_)
            have tz297 := tf_98_2 I0
            refine h_iconst (pc' := 8) (x := (Int32.ofInt 1)) rfl rfl rfl ?_
            refine h_isub (pc' := 9) rfl rfl hz297 ci_1 rfl (by omega) (by omega) (fun z298 hz298 => ?_)
            clear hz297
            refine h_i2l (pc' := 10) rfl rfl hz298 (fun z299 hz299 => ?_)
            clear hz298
            refine h_calls (pc' := 13) (M := [(0, .long z296), (2, .long (Int64.ofInt 0)), (4, .long z299)]) rfl rfl rfl rfl rfl rfl ?_
            refine h_lload_n (pc' := 1) rfl rfl rfl ?_
            refine h_lload_n (pc' := 2) rfl rfl rfl ?_
            refine h_lcmp (pc' := 3) rfl rfl hz296 cl_0 (fun z300 hz300 => ?_)
            refine h_zlt (tg := 17) (pc' := 6) rfl rfl rfl rfl (fun c301 => absurd c301 (by omega)) (fun c301 => ?_)
            replace c301 := (h_lcr hz300).2.1 c301
            clear hz300
            refine h_lload_n (pc' := 7) rfl rfl rfl ?_
            refine h_lload (pc' := 9) rfl rfl rfl ?_
            refine h_lcmp (pc' := 10) rfl rfl hz296 hz299 (fun z302 hz302 => ?_)
            refine h_zgt (tg := 17) (pc' := 13) rfl rfl rfl rfl (fun c303 => absurd c303 (by omega)) (fun c303 => ?_)
            replace c303 := (h_lcr hz302).2.2.1 c303
            clear hz302
            refine h_iconst (pc' := 14) (x := (Int32.ofInt 1)) rfl rfl rfl ?_
            refine h_goto (pc' := 18) rfl rfl ?_
            refine h_zret rfl rfl ci_1 (by omega) (h_Kv ?_)
            clear hz296 hz299
            refine h_zret rfl rfl ci_1 (by omega) (h_Kv ?_)
            refine h_zeq (tg := 72) (pc' := 52) rfl rfl rfl ci_1 (fun c304 => absurd c304 (by omega)) (fun c304 => ?_)
            refine h_iload_n (pc' := 53) rfl rfl rfl ?_
            refine h_zne (tg := 72) (pc' := 56) rfl rfl rfl hz292 (fun c305 => absurd (Int.le_antisymm (by omega) (by omega)) c305) (fun c305 => ?_)
            refine h_iload_n (pc' := 57) rfl rfl rfl ?_
            refine h_i2l (pc' := 58) rfl rfl hz294 (fun z306 hz306 => ?_)
            refine h_lconst (pc' := 59) (x := (Int64.ofInt 0)) rfl rfl rfl ?_
            refine h_ldc2 (pc' := 62) (x := (Int64.ofInt 9)) rfl rfl rfl ?_
            refine h_calls (pc' := 65) (M := [(0, .long z306), (2, .long (Int64.ofInt 0)), (4, .long (Int64.ofInt 9))]) rfl rfl rfl rfl rfl rfl ?_
            refine h_lload_n (pc' := 1) rfl rfl rfl ?_
            refine h_lload_n (pc' := 2) rfl rfl rfl ?_
            refine h_lcmp (pc' := 3) rfl rfl hz306 cl_0 (fun z307 hz307 => ?_)
            refine h_zlt (tg := 17) (pc' := 6) rfl rfl rfl rfl (fun c308 => absurd c308 (by omega)) (fun c308 => ?_)
            replace c308 := (h_lcr hz307).2.1 c308
            clear hz307
            refine h_lload_n (pc' := 7) rfl rfl rfl ?_
            refine h_lload (pc' := 9) rfl rfl rfl ?_
            refine h_lcmp (pc' := 10) rfl rfl hz306 cl_9 (fun z309 hz309 => ?_)
            refine h_zgt (tg := 17) (pc' := 13) rfl rfl rfl rfl (fun c310 => absurd c310 (by omega)) (fun c310 => ?_)
            replace c310 := (h_lcr hz309).2.2.1 c310
            clear hz309
            refine h_iconst (pc' := 14) (x := (Int32.ofInt 1)) rfl rfl rfl ?_
            refine h_goto (pc' := 18) rfl rfl ?_
            refine h_zret rfl rfl ci_1 (by omega) (h_Kv ?_)
            clear hz306
            refine h_zeq (tg := 72) (pc' := 68) rfl rfl rfl ci_1 (fun c311 => absurd c311 (by omega)) (fun c311 => ?_)
            refine h_iconst (pc' := 69) (x := (Int32.ofInt 1)) rfl rfl rfl ?_
            refine h_goto (pc' := 73) rfl rfl ?_
            refine h_bipush (pc' := 75) (x := (Int32.ofInt 26)) rfl rfl cb_26 ?_
            refine h_iload_n (pc' := 76) rfl rfl rfl ?_
            refine h_iadd (pc' := 77) rfl rfl ci_26 hz290 rfl (by have g0 := h_rgv hz290; omega) (by have g0 := h_rgv hz290; omega) (fun z312 hz312 => ?_)
            refine h_iload_n (pc' := 78) rfl rfl rfl ?_
            refine h_iconst (pc' := 79) (x := (Int32.ofInt 0)) rfl rfl rfl ?_
            refine h_call (sp := false) (pc' := 82) (M := [(0, .ref 98), (1, .int (Int32.ofInt 1)), (2, .int z312), (3, .int z294), (4, .int (Int32.ofInt 0))]) rfl rfl rfl rfl rfl rfl rfl rfl ?_
            refine h_iload_n (pc' := 1) rfl rfl rfl ?_
            refine h_zne (tg := 6) (pc' := 4) rfl rfl rfl ci_1 (fun c313 => ?_) (fun c313 => absurd c313 (by omega))
            refine h_iload (pc' := 8) rfl rfl rfl ?_
            refine h_zne (tg := 20) (pc' := 11) rfl rfl rfl ci_0 (fun c314 => absurd (Int.le_antisymm (by omega) (by omega)) c314) (fun c314 => ?_)
            refine h_aload_n (pc' := 12) rfl rfl rfl ?_
            refine h_getR (pc' := 15) rfl rfl rfl rfl rfl ?_
            refine h_iload_n (pc' := 16) rfl rfl rfl ?_
            refine h_iald (pc' := 17) (v := s288 99 (26 + (s0 0 (b3 + 1)))) rfl rfl rfl hz312 (by omega) (by omega) rfl (fun z315 hz315 => ?_)
            have tz315 := ty_99_6 Is288 (26 + (s0 0 (b3 + 1))) (by omega)
            refine h_goto (pc' := 29) rfl rfl ?_
            refine h_istore (pc' := 31) (M := [(5, .int z315), (0, .ref 98), (1, .int (Int32.ofInt 1)), (2, .int z312), (3, .int z294), (4, .int (Int32.ofInt 0))]) rfl rfl rfl rfl ?_
            refine h_aload_n (pc' := 32) rfl rfl rfl ?_
            refine h_getR (pc' := 35) rfl rfl rfl rfl rfl ?_
            refine h_iload_n (pc' := 36) rfl rfl rfl ?_
            refine h_iload (pc' := 38) rfl rfl rfl ?_
            refine h_zne (tg := 45) (pc' := 41) rfl rfl rfl ci_0 (fun c316 => absurd (Int.le_antisymm (by omega) (by omega)) c316) (fun c316 => ?_)
            refine h_iload_n (pc' := 42) rfl rfl rfl ?_
            refine h_goto (pc' := 58) rfl rfl ?_
            refine h_iast (pc' := 59) rfl rfl rfl rfl hz312 (by omega) (by omega) hz294 (h_fgt (E := fun s => s 64 1 = s0 64 1 ∧ s 98 11 = s0 98 11 ∧ s 64 4 = s0 64 4 ∧ s 98 16 = s0 98 16 ∧ s 10 8 = s0 10 8 ∧ s 98 1 = s0 98 1 ∧ s 10 9 = s0 10 9 ∧ s 98 2 = s0 98 2 ∧ s = h_up s288 99 (26 + (s0 0 (b3 + 1))) (s0 0 (b3 + 3))) _ (ip_99_6 Is288 (by omega) (by omega)) (Fs288.up rfl) ⟨es288.1, es288.2.1, es288.2.2.1, es288.2.2.2.1, es288.2.2.2.2.1, es288.2.2.2.2.2.1, es288.2.2.2.2.2.2.1, es288.2.2.2.2.2.2.2.1, rfl⟩ (fun s317 Is317 Fs317 (es317 : s317 64 1 = s0 64 1 ∧ s317 98 11 = s0 98 11 ∧ s317 64 4 = s0 64 4 ∧ s317 98 16 = s0 98 16 ∧ s317 10 8 = s0 10 8 ∧ s317 98 1 = s0 98 1 ∧ s317 10 9 = s0 10 9 ∧ s317 98 2 = s0 98 2 ∧ s317 = h_up s288 99 (26 + (s0 0 (b3 + 1))) (s0 0 (b3 + 3))) => ?_))
            clear es288
            have us317 := es317.2.2.2.2.2.2.2.2
            have Zs317 : ∀ i, s317 0 i = s0 0 i := fun i => (h_upo us317 rfl i).trans (Zs288 i)
            refine h_iload (pc' := 61) rfl rfl rfl ?_
            refine h_iret rfl rfl (h_Kv ?_)
            clear hz312
            refine h_iret rfl rfl (h_Kv ?_)
            clear hz290 hz292 hz294
            refine h_ceq (tg := 1441) (pc' := 678) rfl rfl rfl hz287 hz315 (fun c318 => ?_) (fun c318 => ?_)
            · clear hz287 hz315
              exact kk _ Is317 (by first | exact d_tape.le j0 (Int.le_antisymm (by omega) (by omega)) (by omega) (fun j => (h_upo us317 rfl j).trans ((h_upo us288 rfl j))) (fun j => (h_upo us317 rfl j).trans ((h_upo us288 rfl j))) | (exfalso; omega)) (Int.le_antisymm (by omega) (by omega)) (c_R.rea j2 I0 (by omega) (by omega) (Int.le_antisymm (by omega) (by omega)) (fun j => (h_upo us317 rfl j).trans ((h_upi us288 j)))  (fun j => (h_upi us317 j).trans (congrArg (fun z => if j = (26 + (s0 0 (b3 + 1))) then (s0 0 (b3 + 3)) else z) ((h_upo us288 rfl j))))  (fun p j n0 n1 => (h_upq us317 n1 j).trans ((h_upq us288 n0 j)))) (g_ti.e j3 ((h_upg us317 rfl).trans (h_upg us288 rfl))) (g_SH.e j4 ((h_upg us317 rfl).trans (h_upg us288 rfl)) ((h_upg us317 rfl).trans (h_upg us288 rfl)) ((h_upg us317 rfl).trans (h_upg us288 rfl)) ((h_upg us317 rfl).trans (h_upg us288 rfl)) ((h_upg us317 rfl).trans (h_upg us288 rfl)) ((h_upg us317 rfl).trans (h_upg us288 rfl)))
            · clear hz287 hz315
              refine h_iconst (pc' := 679) (x := (Int32.ofInt 0)) rfl rfl rfl ?_
              first | have ga := j2.rc (j := s0 0 (b3 + 1)) (by omega) (by omega) | skip
              first | have gb := j2.lw (j := s0 0 (b3 + 1)) (by omega) (by omega) | skip
              have gm1_0 : s288 99 (26 + s0 0 (b3 + 1)) = s0 99 (26 + s0 0 (b3 + 1)) := (h_upo us288 rfl (26 + s0 0 (b3 + 1)))
              have gm1_1 : s288 99 (29 + s0 0 (b3 + 1)) = s0 99 (29 + s0 0 (b3 + 1)) := (h_upo us288 rfl (29 + s0 0 (b3 + 1)))
              exfalso
              omega
