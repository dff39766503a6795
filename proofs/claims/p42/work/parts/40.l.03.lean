set_option maxHeartbeats 100000000 in
theorem g_case_495 {ns : Nat} (hns : ns ≤ 320) (s0 : h_S) (I0 : h_I s0) (j0 : d_tape s0 s0) (j1 : s0 64 4 = s0 98 16) (j2 : c_R true s0) (j3 : g_ti s0) (j4 : g_SH s0) (j5 : s0 90 2 = s0 98 29) (y3 : Int32) (b3 : Int) (hy3 : y3.toInt = b3) (hr : 0 ≤ b3 ∧ b3 + 5 ≤ ns) {Q : Option Value → h_S → Prop} (kk : ∀ τ, h_I τ → (d_tape τ τ) → (τ 64 4 = τ 98 16) → (c_R true τ) → (g_ti τ) → (g_SH τ) → (τ 90 2 = τ 98 29) → h_T g_P (g_Y ns) 225 1441 [(0, .ref 0), (1, .ref 9), (2, .ref 98), (3, .int y3)] [] τ Q) : h_T g_P (g_Y ns) 225 495 [(0, .ref 0), (1, .ref 9), (2, .ref 98), (3, .int y3)] [] s0 Q := by
  have F0_ : h_F (fun _ _ => true) s0 s0 := h_F.rf
  have j0_ := j0.2
  have i0 := tf_64_1 I0
  have i1 := tf_98_11 I0
  have i2 := tf_64_4 I0
  have i3 := tf_98_16 I0
  have i4 := tf_90_2 I0
  have i5 := tf_98_29 I0
  have i6 := tf_10_8 I0
  have i7 := tf_98_1 I0
  have j2_ := j2.sz
  refine h_aload_n (pc' := 496) rfl rfl rfl ?_
  refine h_aload_n (pc' := 497) rfl rfl rfl ?_
  refine h_iload_n (pc' := 498) rfl rfl rfl ?_
  refine h_iconst (pc' := 499) (x := (Int32.ofInt 1)) rfl rfl rfl ?_
  refine h_iadd (pc' := 500) rfl rfl hy3 ci_1 rfl (by omega) (by omega) (fun z1 hz1 => ?_)
  refine h_iald (pc' := 501) (v := s0 0 (b3 + 1)) rfl rfl rfl hz1 (by omega) (by omega) rfl (fun z2 hz2 => ?_)
  have tz2 := h_rgv hz2
  clear hz1
  refine h_aload_n (pc' := 502) rfl rfl rfl ?_
  refine h_iload_n (pc' := 503) rfl rfl rfl ?_
  refine h_iconst (pc' := 504) (x := (Int32.ofInt 2)) rfl rfl rfl ?_
  refine h_iadd (pc' := 505) rfl rfl hy3 ci_2 rfl (by omega) (by omega) (fun z3 hz3 => ?_)
  refine h_iald (pc' := 506) (v := s0 0 (b3 + 2)) rfl rfl rfl hz3 (by omega) (by omega) rfl (fun z4 hz4 => ?_)
  have tz4 := h_rgv hz4
  clear hz3
  refine h_aload_n (pc' := 507) rfl rfl rfl ?_
  refine h_iload_n (pc' := 508) rfl rfl rfl ?_
  refine h_iconst (pc' := 509) (x := (Int32.ofInt 3)) rfl rfl rfl ?_
  refine h_iadd (pc' := 510) rfl rfl hy3 ci_3 rfl (by omega) (by omega) (fun z5 hz5 => ?_)
  refine h_iald (pc' := 511) (v := s0 0 (b3 + 3)) rfl rfl rfl hz5 (by omega) (by omega) rfl (fun z6 hz6 => ?_)
  have tz6 := h_rgv hz6
  clear hz5
  refine h_call (sp := false) (pc' := 514) (M := [(0, .ref 9), (1, .int z2), (2, .int z4), (3, .int z6)]) rfl rfl rfl rfl rfl rfl rfl rfl ?_
  refine h_aload_n (pc' := 1) rfl rfl rfl ?_
  refine h_getR (pc' := 4) rfl rfl rfl rfl rfl ?_
  refine h_iload_n (pc' := 5) rfl rfl rfl ?_
  refine h_call (sp := false) (pc' := 8) (M := [(0, .ref 10), (1, .int z2)]) rfl rfl rfl rfl rfl rfl rfl rfl ?_
  refine h_iload_n (pc' := 1) rfl rfl rfl ?_
  refine h_zlt (tg := 16) (pc' := 4) rfl rfl rfl hz2 (fun c7 => ?_) (fun c7 => ?_)
  · refine h_iconst (pc' := 17) (x := (Int32.ofInt 0)) rfl rfl rfl ?_
    refine h_zret rfl rfl ci_0 (by omega) (h_Kv ?_)
    refine h_zne (tg := 13) (pc' := 11) rfl rfl rfl ci_0 (fun c8 => absurd (Int.le_antisymm (by omega) (by omega)) c8) (fun c8 => ?_)
    refine h_iconst (pc' := 12) (x := (Int32.ofInt (-1))) rfl rfl rfl ?_
    refine h_iret rfl rfl (h_Kv ?_)
    clear hz2 hz4 hz6
    refine h_pop (pc' := 515) rfl rfl rfl ?_
    refine h_aload_n (pc' := 516) rfl rfl rfl ?_
    refine h_aload_n (pc' := 517) rfl rfl rfl ?_
    refine h_iload_n (pc' := 518) rfl rfl rfl ?_
    refine h_iconst (pc' := 519) (x := (Int32.ofInt 1)) rfl rfl rfl ?_
    refine h_iadd (pc' := 520) rfl rfl hy3 ci_1 rfl (by omega) (by omega) (fun z9 hz9 => ?_)
    refine h_iald (pc' := 521) (v := s0 0 (b3 + 1)) rfl rfl rfl hz9 (by omega) (by omega) rfl (fun z10 hz10 => ?_)
    have tz10 := h_rgv hz10
    clear hz9
    refine h_aload_n (pc' := 522) rfl rfl rfl ?_
    refine h_iload_n (pc' := 523) rfl rfl rfl ?_
    refine h_iconst (pc' := 524) (x := (Int32.ofInt 2)) rfl rfl rfl ?_
    refine h_iadd (pc' := 525) rfl rfl hy3 ci_2 rfl (by omega) (by omega) (fun z11 hz11 => ?_)
    refine h_iald (pc' := 526) (v := s0 0 (b3 + 2)) rfl rfl rfl hz11 (by omega) (by omega) rfl (fun z12 hz12 => ?_)
    have tz12 := h_rgv hz12
    clear hz11
    refine h_aload_n (pc' := 527) rfl rfl rfl ?_
    refine h_iload_n (pc' := 528) rfl rfl rfl ?_
    refine h_iconst (pc' := 529) (x := (Int32.ofInt 3)) rfl rfl rfl ?_
    refine h_iadd (pc' := 530) rfl rfl hy3 ci_3 rfl (by omega) (by omega) (fun z13 hz13 => ?_)
    refine h_iald (pc' := 531) (v := s0 0 (b3 + 3)) rfl rfl rfl hz13 (by omega) (by omega) rfl (fun z14 hz14 => ?_)
    have tz14 := h_rgv hz14
    clear hz13
    refine h_call (sp := false) (pc' := 534) (M := [(0, .ref 98), (1, .int z10), (2, .int z12), (3, .int z14)]) rfl rfl rfl rfl rfl rfl rfl rfl ?_
    refine h_iload_n (pc' := 1) rfl rfl rfl ?_
    refine h_iconst (pc' := 2) (x := (Int32.ofInt 1)) rfl rfl rfl ?_
    refine h_cne (tg := 48) (pc' := 5) rfl rfl rfl hz12 ci_1 (fun c15 => ?_) (fun c15 => ?_)
    · refine h_aload_n (pc' := 49) rfl rfl rfl ?_
      refine h_aload_n (pc' := 50) rfl rfl rfl ?_
      refine h_iload_n (pc' := 51) rfl rfl rfl ?_
      refine h_call (sp := false) (pc' := 54) (M := [(0, .ref 98), (1, .int z10)]) rfl rfl rfl rfl rfl rfl rfl rfl ?_
      refine h_iload_n (pc' := 1) rfl rfl rfl ?_
      refine h_i2l (pc' := 2) rfl rfl hz10 (fun z16 hz16 => ?_)
      refine h_lconst (pc' := 3) (x := (Int64.ofInt 0)) rfl rfl rfl ?_
      refine h_aload_n (pc' := 4) rfl rfl rfl ?_
      refine h_getI (pc' := 7) (v := s0 98 1) rfl rfl rfl rfl rfl rfl (fun z17 hz17 => ?_)
      have tz17 := tf_98_1 I0
      refine h_iconst (pc' := 8) (x := (Int32.ofInt 1)) rfl rfl rfl ?_
      refine h_isub (pc' := 9) rfl rfl hz17 ci_1 rfl (by omega) (by omega) (fun z18 hz18 => ?_)
      clear hz17
      refine h_i2l (pc' := 10) rfl rfl hz18 (fun z19 hz19 => ?_)
      clear hz18
      refine h_calls (pc' := 13) (M := [(0, .long z16), (2, .long (Int64.ofInt 0)), (4, .long z19)]) rfl rfl rfl rfl rfl rfl ?_
      refine h_lload_n (pc' := 1) rfl rfl rfl ?_
      refine h_lload_n (pc' := 2) rfl rfl rfl ?_
      refine h_lcmp (pc' := 3) rfl rfl hz16 cl_0 (fun z20 hz20 => ?_)
      refine h_zlt (tg := 17) (pc' := 6) rfl rfl rfl rfl (fun c21 => ?_) (fun c21 => absurd c21 (by omega))
      replace c21 := (h_lcr hz20).1 c21
      clear hz20
      refine h_iconst (pc' := 18) (x := (Int32.ofInt 0)) rfl rfl rfl ?_
      refine h_zret rfl rfl ci_0 (by omega) (h_Kv ?_)
      clear hz16 hz19
      refine h_zret rfl rfl ci_0 (by omega) (h_Kv ?_)
      refine h_zeq (tg := 77) (pc' := 57) rfl rfl rfl ci_0 (fun c22 => ?_) (fun c22 => absurd (Int.le_antisymm (by omega) (by omega)) c22)
      refine h_iconst (pc' := 78) (x := (Int32.ofInt 0)) rfl rfl rfl ?_
      refine h_iload_n (pc' := 79) rfl rfl rfl ?_
      refine h_iload_n (pc' := 80) rfl rfl rfl ?_
      refine h_iconst (pc' := 81) (x := (Int32.ofInt 0)) rfl rfl rfl ?_
      refine h_call (sp := false) (pc' := 84) (M := [(0, .ref 98), (1, .int (Int32.ofInt 0)), (2, .int z10), (3, .int z14), (4, .int (Int32.ofInt 0))]) rfl rfl rfl rfl rfl rfl rfl rfl ?_
      refine h_iload_n (pc' := 1) rfl rfl rfl ?_
      refine h_zne (tg := 6) (pc' := 4) rfl rfl rfl ci_0 (fun c23 => absurd (Int.le_antisymm (by omega) (by omega)) c23) (fun c23 => ?_)
      refine h_iconst (pc' := 5) (x := (Int32.ofInt (-1))) rfl rfl rfl ?_
      refine h_iret rfl rfl (h_Kv ?_)
      refine h_iret rfl rfl (h_Kv ?_)
      clear hz10 hz12 hz14
      refine h_pop (pc' := 535) rfl rfl rfl ?_
      refine h_goto (pc' := 1441) rfl rfl ?_
      exact kk _ I0 (by first | exact d_tape.le j0 (Int.le_antisymm (by omega) (by omega)) (by omega) (fun j => rfl) (fun j => rfl) | (exfalso; omega)) (Int.le_antisymm (by omega) (by omega)) j2 (g_ti.e j3 rfl) (g_SH.e j4 rfl rfl rfl rfl rfl rfl) (Int.le_antisymm (by omega) (by omega))
    · refine h_aload_n (pc' := 6) rfl rfl rfl ?_
      refine h_aload_n (pc' := 7) rfl rfl rfl ?_
      refine h_iload_n (pc' := 8) rfl rfl rfl ?_
      refine h_call (sp := false) (pc' := 11) (M := [(0, .ref 98), (1, .int z10)]) rfl rfl rfl rfl rfl rfl rfl rfl ?_
      refine h_iload_n (pc' := 1) rfl rfl rfl ?_
      refine h_i2l (pc' := 2) rfl rfl hz10 (fun z24 hz24 => ?_)
      refine h_lconst (pc' := 3) (x := (Int64.ofInt 0)) rfl rfl rfl ?_
      refine h_aload_n (pc' := 4) rfl rfl rfl ?_
      refine h_getI (pc' := 7) (v := s0 98 1) rfl rfl rfl rfl rfl rfl (fun z25 hz25 => ?_)
      have tz25 := tf_98_1 I0
      refine h_iconst (pc' := 8) (x := (Int32.ofInt 1)) rfl rfl rfl ?_
      refine h_isub (pc' := 9) rfl rfl hz25 ci_1 rfl (by omega) (by omega) (fun z26 hz26 => ?_)
      clear hz25
      refine h_i2l (pc' := 10) rfl rfl hz26 (fun z27 hz27 => ?_)
      clear hz26
      refine h_calls (pc' := 13) (M := [(0, .long z24), (2, .long (Int64.ofInt 0)), (4, .long z27)]) rfl rfl rfl rfl rfl rfl ?_
      refine h_lload_n (pc' := 1) rfl rfl rfl ?_
      refine h_lload_n (pc' := 2) rfl rfl rfl ?_
      refine h_lcmp (pc' := 3) rfl rfl hz24 cl_0 (fun z28 hz28 => ?_)
      refine h_zlt (tg := 17) (pc' := 6) rfl rfl rfl rfl (fun c29 => ?_) (fun c29 => absurd c29 (by omega))
      replace c29 := (h_lcr hz28).1 c29
      clear hz28
      refine h_iconst (pc' := 18) (x := (Int32.ofInt 0)) rfl rfl rfl ?_
      refine h_zret rfl rfl ci_0 (by omega) (h_Kv ?_)
      clear hz24 hz27
      refine h_zret rfl rfl ci_0 (by omega) (h_Kv ?_)
      refine h_zeq (tg := 37) (pc' := 14) rfl rfl rfl ci_0 (fun c30 => ?_) (fun c30 => absurd (Int.le_antisymm (by omega) (by omega)) c30)
      refine h_iconst (pc' := 38) (x := (Int32.ofInt 0)) rfl rfl rfl ?_
      refine h_bipush (pc' := 40) (x := (Int32.ofInt 6)) rfl rfl cb_6 ?_
      refine h_iload_n (pc' := 41) rfl rfl rfl ?_
      refine h_iadd (pc' := 42) rfl rfl ci_6 hz10 rfl (by have g0 := h_rgv hz10; omega) (by have g0 := h_rgv hz10; omega) (fun z31 hz31 => ?_)
      refine h_iload_n (pc' := 43) rfl rfl rfl ?_
      refine h_iconst (pc' := 44) (x := (Int32.ofInt 1)) rfl rfl rfl ?_
      refine h_call (sp := false) (pc' := 47) (M := [(0, .ref 98), (1, .int (Int32.ofInt 0)), (2, .int z31), (3, .int z14), (4, .int (Int32.ofInt 1))]) rfl rfl rfl rfl rfl rfl rfl rfl ?_
      refine h_iload_n (pc' := 1) rfl rfl rfl ?_
      refine h_zne (tg := 6) (pc' := 4) rfl rfl rfl ci_0 (fun c32 => absurd (Int.le_antisymm (by omega) (by omega)) c32) (fun c32 => ?_)
      refine h_iconst (pc' := 5) (x := (Int32.ofInt (-1))) rfl rfl rfl ?_
      refine h_iret rfl rfl (h_Kv ?_)
      clear hz31
      refine h_iret rfl rfl (h_Kv ?_)
      clear hz10 hz12 hz14
      refine h_pop (pc' := 535) rfl rfl rfl ?_
      refine h_goto (pc' := 1441) rfl rfl ?_
      exact kk _ I0 (by first | exact d_tape.le j0 (Int.le_antisymm (by omega) (by omega)) (by omega) (fun j => rfl) (fun j => rfl) | (exfalso; omega)) (Int.le_antisymm (by omega) (by omega)) j2 (g_ti.e j3 rfl) (g_SH.e j4 rfl rfl rfl rfl rfl rfl) (Int.le_antisymm (by omega) (by omega))
  · refine h_iload_n (pc' := 5) rfl rfl rfl ?_
    refine h_aload_n (pc' := 6) rfl rfl rfl ?_
    refine h_getI (pc' := 9) (v := s0 10 8) rfl rfl rfl rfl rfl rfl (fun z33 hz33 => ?_)
    have tz33 := tf_10_8 I0
    refine h_cge (tg := 16) (pc' := 12) rfl rfl rfl hz2 hz33 (fun c34 => ?_) (fun c34 => ?_)
    · clear hz33
      refine h_iconst (pc' := 17) (x := (Int32.ofInt 0)) rfl rfl rfl ?_
      refine h_zret rfl rfl ci_0 (by omega) (h_Kv ?_)
      refine h_zne (tg := 13) (pc' := 11) rfl rfl rfl ci_0 (fun c35 => absurd (Int.le_antisymm (by omega) (by omega)) c35) (fun c35 => ?_)
      refine h_iconst (pc' := 12) (x := (Int32.ofInt (-1))) rfl rfl rfl ?_
      refine h_iret rfl rfl (h_Kv ?_)
      clear hz2 hz4 hz6
      refine h_pop (pc' := 515) rfl rfl rfl ?_
      refine h_aload_n (pc' := 516) rfl rfl rfl ?_
      refine h_aload_n (pc' := 517) rfl rfl rfl ?_
      refine h_iload_n (pc' := 518) rfl rfl rfl ?_
      refine h_iconst (pc' := 519) (x := (Int32.ofInt 1)) rfl rfl rfl ?_
      refine h_iadd (pc' := 520) rfl rfl hy3 ci_1 rfl (by omega) (by omega) (fun z36 hz36 => ?_)
      refine h_iald (pc' := 521) (v := s0 0 (b3 + 1)) rfl rfl rfl hz36 (by omega) (by omega) rfl (fun z37 hz37 => ?_)
      have tz37 := h_rgv hz37
      clear hz36
      refine h_aload_n (pc' := 522) rfl rfl rfl ?_
      refine h_iload_n (pc' := 523) rfl rfl rfl ?_
      refine h_iconst (pc' := 524) (x := (Int32.ofInt 2)) rfl rfl rfl ?_
      refine h_iadd (pc' := 525) rfl rfl hy3 ci_2 rfl (by omega) (by omega) (fun z38 hz38 => ?_)
      refine h_iald (pc' := 526) (v := s0 0 (b3 + 2)) rfl rfl rfl hz38 (by omega) (by omega) rfl (fun z39 hz39 => ?_)
      have tz39 := h_rgv hz39
      clear hz38
      refine h_aload_n (pc' := 527) rfl rfl rfl ?_
      refine h_iload_n (pc' := 528) rfl rfl rfl ?_
      refine h_iconst (pc' := 529) (x := (Int32.ofInt 3)) rfl rfl rfl ?_
      refine h_iadd (pc' := 530) rfl rfl hy3 ci_3 rfl (by omega) (by omega) (fun z40 hz40 => ?_)
      refine h_iald (pc' := 531) (v := s0 0 (b3 + 3)) rfl rfl rfl hz40 (by omega) (by omega) rfl (fun z41 hz41 => ?_)
      have tz41 := h_rgv hz41
      clear hz40
      refine h_call (sp := false) (pc' := 534) (M := [(0, .ref 98), (1, .int z37), (2, .int z39), (3, .int z41)]) rfl rfl rfl rfl rfl rfl rfl rfl ?_
      refine h_iload_n (pc' := 1) rfl rfl rfl ?_
      refine h_iconst (pc' := 2) (x := (Int32.ofInt 1)) rfl rfl rfl ?_
      refine h_cne (tg := 48) (pc' := 5) rfl rfl rfl hz39 ci_1 (fun c42 => ?_) (fun c42 => ?_)
      · refine h_aload_n (pc' := 49) rfl rfl rfl ?_
        refine h_aload_n (pc' := 50) rfl rfl rfl ?_
        refine h_iload_n (pc' := 51) rfl rfl rfl ?_
        refine h_call (sp := false) (pc' := 54) (M := [(0, .ref 98), (1, .int z37)]) rfl rfl rfl rfl rfl rfl rfl rfl ?_
        refine h_iload_n (pc' := 1) rfl rfl rfl ?_
        refine h_i2l (pc' := 2) rfl rfl hz37 (fun z43 hz43 => ?_)
        refine h_lconst (pc' := 3) (x := (Int64.ofInt 0)) rfl rfl rfl ?_
        refine h_aload_n (pc' := 4) rfl rfl rfl ?_
        refine h_getI (pc' := 7) (v := s0 98 1) rfl rfl rfl rfl rfl rfl (fun z44 hz44 => ?_)
        have tz44 := tf_98_1 I0
        refine h_iconst (pc' := 8) (x := (Int32.ofInt 1)) rfl rfl rfl ?_
        refine h_isub (pc' := 9) rfl rfl hz44 ci_1 rfl (by omega) (by omega) (fun z45 hz45 => ?_)
        clear hz44
        refine h_i2l (pc' := 10) rfl rfl hz45 (fun z46 hz46 => ?_)
        clear hz45
        refine h_calls (pc' := 13) (M := [(0, .long z43), (2, .long (Int64.ofInt 0)), (4, .long z46)]) rfl rfl rfl rfl rfl rfl ?_
        refine h_lload_n (pc' := 1) rfl rfl rfl ?_
        refine h_lload_n (pc' := 2) rfl rfl rfl ?_
        refine h_lcmp (pc' := 3) rfl rfl hz43 cl_0 (fun z47 hz47 => ?_)
        refine h_zlt (tg := 17) (pc' := 6) rfl rfl rfl rfl (fun c48 => absurd c48 (by omega)) (fun c48 => ?_)
        replace c48 := (h_lcr hz47).2.1 c48
        clear hz47
        refine h_lload_n (pc' := 7) rfl rfl rfl ?_
        refine h_lload (pc' := 9) rfl rfl rfl ?_
        refine h_lcmp (pc' := 10) rfl rfl hz43 hz46 (fun z49 hz49 => ?_)
        refine h_zgt (tg := 17) (pc' := 13) rfl rfl rfl rfl (fun c50 => ?_) (fun c50 => absurd c50 (by omega))
        replace c50 := (h_lcr hz49).2.2.2.1 c50
        clear hz49
        refine h_iconst (pc' := 18) (x := (Int32.ofInt 0)) rfl rfl rfl ?_
        refine h_zret rfl rfl ci_0 (by omega) (h_Kv ?_)
        clear hz43 hz46
        refine h_zret rfl rfl ci_0 (by omega) (h_Kv ?_)
        refine h_zeq (tg := 77) (pc' := 57) rfl rfl rfl ci_0 (fun c51 => ?_) (fun c51 => absurd (Int.le_antisymm (by omega) (by omega)) c51)
        refine h_iconst (pc' := 78) (x := (Int32.ofInt 0)) rfl rfl rfl ?_
        refine h_iload_n (pc' := 79) rfl rfl rfl ?_
        refine h_iload_n (pc' := 80) rfl rfl rfl ?_
        refine h_iconst (pc' := 81) (x := (Int32.ofInt 0)) rfl rfl rfl ?_
        refine h_call (sp := false) (pc' := 84) (M := [(0, .ref 98), (1, .int (Int32.ofInt 0)), (2, .int z37), (3, .int z41), (4, .int (Int32.ofInt 0))]) rfl rfl rfl rfl rfl rfl rfl rfl ?_
        refine h_iload_n (pc' := 1) rfl rfl rfl ?_
        refine h_zne (tg := 6) (pc' := 4) rfl rfl rfl ci_0 (fun c52 => absurd (Int.le_antisymm (by omega) (by omega)) c52) (fun c52 => ?_)
        refine h_iconst (pc' := 5) (x := (Int32.ofInt (-1))) rfl rfl rfl ?_
        refine h_iret rfl rfl (h_Kv ?_)
        refine h_iret rfl rfl (h_Kv ?_)
        clear hz37 hz39 hz41
        refine h_pop (pc' := 535) rfl rfl rfl ?_
        refine h_goto (pc' := 1441) rfl rfl ?_
        exact kk _ I0 (by first | exact d_tape.le j0 (Int.le_antisymm (by omega) (by omega)) (by omega) (fun j => rfl) (fun j => rfl) | (exfalso; omega)) (Int.le_antisymm (by omega) (by omega)) j2 (g_ti.e j3 rfl) (g_SH.e j4 rfl rfl rfl rfl rfl rfl) (Int.le_antisymm (by omega) (by omega))
      · refine h_aload_n (pc' := 6) rfl rfl rfl ?_
        refine h_aload_n (pc' := 7) rfl rfl rfl ?_
        refine h_iload_n (pc' := 8) rfl rfl rfl ?_
        refine h_call (sp := false) (pc' := 11) (M := [(0, .ref 98), (1, .int z37)]) rfl rfl rfl rfl rfl rfl rfl rfl ?_
        refine h_iload_n (pc' := 1) rfl rfl rfl ?_
        refine h_i2l (pc' := 2) rfl rfl hz37 (fun z53 hz53 => ?_)
        refine h_lconst (pc' := 3) (x := (Int64.ofInt 0)) rfl rfl rfl ?_
        refine h_aload_n (pc' := 4) rfl rfl rfl ?_
        refine h_getI (pc' := 7) (v := s0 98 1) rfl rfl rfl rfl rfl rfl (fun z54 hz54 => ?_)
        have tz54 := tf_98_1 I0
        refine h_iconst (pc' := 8) (x := (Int32.ofInt 1)) rfl rfl rfl ?_
        refine h_isub (pc' := 9) rfl rfl hz54 ci_1 rfl (by omega) (by omega) (fun z55 hz55 => ?_)
        clear hz54
        refine h_i2l (pc' := 10) rfl rfl hz55 (fun z56 hz56 => ?_)
        clear hz55
        refine h_calls (pc' := 13) (M := [(0, .long z53), (2, .long (Int64.ofInt 0)), (4, .long z56)]) rfl rfl rfl rfl rfl rfl ?_
        refine h_lload_n (pc' := 1) rfl rfl rfl ?_
        refine h_lload_n (pc' := 2) rfl rfl rfl ?_
        refine h_lcmp (pc' := 3) rfl rfl hz53 cl_0 (fun z57 hz57 => ?_)
        refine h_zlt (tg := 17) (pc' := 6) rfl rfl rfl rfl (fun c58 => absurd c58 (by omega)) (fun c58 => ?_)
        replace c58 := (h_lcr hz57).2.1 c58
        clear hz57
        refine h_lload_n (pc' := 7) rfl rfl rfl ?_
        refine h_lload (pc' := 9) rfl rfl rfl ?_
        refine h_lcmp (pc' := 10) rfl rfl hz53 hz56 (fun z59 hz59 => ?_)
        refine h_zgt (tg := 17) (pc' := 13) rfl rfl rfl rfl (fun c60 => ?_) (fun c60 => absurd c60 (by omega))
        replace c60 := (h_lcr hz59).2.2.2.1 c60
        clear hz59
        refine h_iconst (pc' := 18) (x := (Int32.ofInt 0)) rfl rfl rfl ?_
        refine h_zret rfl rfl ci_0 (by omega) (h_Kv ?_)
        clear hz53 hz56
        refine h_zret rfl rfl ci_0 (by omega) (h_Kv ?_)
        refine h_zeq (tg := 37) (pc' := 14) rfl rfl rfl ci_0 (fun c61 => ?_) (fun c61 => absurd (Int.le_antisymm (by omega) (by omega)) c61)
        refine h_iconst (pc' := 38) (x := (Int32.ofInt 0)) rfl rfl rfl ?_
        refine h_bipush (pc' := 40) (x := (Int32.ofInt 6)) rfl rfl cb_6 ?_
        refine h_iload_n (pc' := 41) rfl rfl rfl ?_
        refine h_iaddA (pc' := 42) rfl rfl (fun z62 hz62 => ?_)
        refine h_iload_n (pc' := 43) rfl rfl rfl ?_
        refine h_iconst (pc' := 44) (x := (Int32.ofInt 1)) rfl rfl rfl ?_
        refine h_call (sp := false) (pc' := 47) (M := [(0, .ref 98), (1, .int (Int32.ofInt 0)), (2, .int z62), (3, .int z41), (4, .int (Int32.ofInt 1))]) rfl rfl rfl rfl rfl rfl rfl rfl ?_
        refine h_iload_n (pc' := 1) rfl rfl rfl ?_
        refine h_zne (tg := 6) (pc' := 4) rfl rfl rfl ci_0 (fun c63 => absurd (Int.le_antisymm (by omega) (by omega)) c63) (fun c63 => ?_)
        refine h_iconst (pc' := 5) (x := (Int32.ofInt (-1))) rfl rfl rfl ?_
        refine h_iret rfl rfl (h_Kv ?_)
        refine h_iret rfl rfl (h_Kv ?_)
        clear hz37 hz39 hz41
        refine h_pop (pc' := 535) rfl rfl rfl ?_
        refine h_goto (pc' := 1441) rfl rfl ?_
        exact kk _ I0 (by first | exact d_tape.le j0 (Int.le_antisymm (by omega) (by omega)) (by omega) (fun j => rfl) (fun j => rfl) | (exfalso; omega)) (Int.le_antisymm (by omega) (by omega)) j2 (g_ti.e j3 rfl) (g_SH.e j4 rfl rfl rfl rfl rfl rfl) (Int.le_antisymm (by omega) (by omega))
    · clear hz33
      refine h_iconst (pc' := 13) (x := (Int32.ofInt 1)) rfl rfl rfl ?_
      refine h_goto (pc' := 17) rfl rfl ?_
      refine h_zret rfl rfl ci_1 (by omega) (h_Kv ?_)
      refine h_zne (tg := 13) (pc' := 11) rfl rfl rfl ci_1 (fun c64 => ?_) (fun c64 => absurd c64 (by omega))
      refine h_iload_n (pc' := 14) rfl rfl rfl ?_
      refine h_zne (tg := 50) (pc' := 17) rfl rfl rfl hz4 (fun c65 => ?_) (fun c65 => ?_)
      · refine h_iload_n (pc' := 51) rfl rfl rfl ?_
        refine h_iconst (pc' := 52) (x := (Int32.ofInt 1)) rfl rfl rfl ?_
        refine h_cne (tg := 94) (pc' := 55) rfl rfl rfl hz4 ci_1 (fun c66 => ?_) (fun c66 => ?_)
        · refine h_iconst (pc' := 95) (x := (Int32.ofInt (-1))) rfl rfl rfl ?_
          refine h_iret rfl rfl (h_Kv ?_)
          clear hz2 hz4 hz6
          refine h_pop (pc' := 515) rfl rfl rfl ?_
          refine h_aload_n (pc' := 516) rfl rfl rfl ?_
          refine h_aload_n (pc' := 517) rfl rfl rfl ?_
          refine h_iload_n (pc' := 518) rfl rfl rfl ?_
          refine h_iconst (pc' := 519) (x := (Int32.ofInt 1)) rfl rfl rfl ?_
          refine h_iadd (pc' := 520) rfl rfl hy3 ci_1 rfl (by omega) (by omega) (fun z67 hz67 => ?_)
          refine h_iald (pc' := 521) (v := s0 0 (b3 + 1)) rfl rfl rfl hz67 (by omega) (by omega) rfl (fun z68 hz68 => ?_)
          have tz68 := h_rgv hz68
          clear hz67
          refine h_aload_n (pc' := 522) rfl rfl rfl ?_
          refine h_iload_n (pc' := 523) rfl rfl rfl ?_
          refine h_iconst (pc' := 524) (x := (Int32.ofInt 2)) rfl rfl rfl ?_
          refine h_iadd (pc' := 525) rfl rfl hy3 ci_2 rfl (by omega) (by omega) (fun z69 hz69 => ?_)
          refine h_iald (pc' := 526) (v := s0 0 (b3 + 2)) rfl rfl rfl hz69 (by omega) (by omega) rfl (fun z70 hz70 => ?_)
          have tz70 := h_rgv hz70
          clear hz69
          refine h_aload_n (pc' := 527) rfl rfl rfl ?_
          refine h_iload_n (pc' := 528) rfl rfl rfl ?_
          refine h_iconst (pc' := 529) (x := (Int32.ofInt 3)) rfl rfl rfl ?_
          refine h_iadd (pc' := 530) rfl rfl hy3 ci_3 rfl (by omega) (by omega) (fun z71 hz71 => ?_)
          refine h_iald (pc' := 531) (v := s0 0 (b3 + 3)) rfl rfl rfl hz71 (by omega) (by omega) rfl (fun z72 hz72 => ?_)
          have tz72 := h_rgv hz72
          clear hz71
          refine h_call (sp := false) (pc' := 534) (M := [(0, .ref 98), (1, .int z68), (2, .int z70), (3, .int z72)]) rfl rfl rfl rfl rfl rfl rfl rfl ?_
          refine h_iload_n (pc' := 1) rfl rfl rfl ?_
          refine h_iconst (pc' := 2) (x := (Int32.ofInt 1)) rfl rfl rfl ?_
          refine h_cne (tg := 48) (pc' := 5) rfl rfl rfl hz70 ci_1 (fun c73 => ?_) (fun c73 => absurd c73 (by omega))
          refine h_aload_n (pc' := 49) rfl rfl rfl ?_
          refine h_aload_n (pc' := 50) rfl rfl rfl ?_
          refine h_iload_n (pc' := 51) rfl rfl rfl ?_
          refine h_call (sp := false) (pc' := 54) (M := [(0, .ref 98), (1, .int z68)]) rfl rfl rfl rfl rfl rfl rfl rfl ?_
          refine h_iload_n (pc' := 1) rfl rfl rfl ?_
          refine h_i2l (pc' := 2) rfl rfl hz68 (fun z74 hz74 => ?_)
          refine h_lconst (pc' := 3) (x := (Int64.ofInt 0)) rfl rfl rfl ?_
          refine h_aload_n (pc' := 4) rfl rfl rfl ?_
          refine h_getI (pc' := 7) (v := s0 98 1) rfl rfl rfl rfl rfl rfl (fun z75 hz75 => ?_)
          have tz75 := tf_98_1 I0
          refine h_iconst (pc' := 8) (x := (Int32.ofInt 1)) rfl rfl rfl ?_
          refine h_isub (pc' := 9) rfl rfl hz75 ci_1 rfl (by omega) (by omega) (fun z76 hz76 => ?_)
          clear hz75
          refine h_i2l (pc' := 10) rfl rfl hz76 (fun z77 hz77 => ?_)
          clear hz76
          refine h_calls (pc' := 13) (M := [(0, .long z74), (2, .long (Int64.ofInt 0)), (4, .long z77)]) rfl rfl rfl rfl rfl rfl ?_
          refine h_lload_n (pc' := 1) rfl rfl rfl ?_
          refine h_lload_n (pc' := 2) rfl rfl rfl ?_
          refine h_lcmp (pc' := 3) rfl rfl hz74 cl_0 (fun z78 hz78 => ?_)
          refine h_zlt (tg := 17) (pc' := 6) rfl rfl rfl rfl (fun c79 => absurd c79 (by omega)) (fun c79 => ?_)
          replace c79 := (h_lcr hz78).2.1 c79
          clear hz78
          refine h_lload_n (pc' := 7) rfl rfl rfl ?_
          refine h_lload (pc' := 9) rfl rfl rfl ?_
          refine h_lcmp (pc' := 10) rfl rfl hz74 hz77 (fun z80 hz80 => ?_)
          refine h_zgt (tg := 17) (pc' := 13) rfl rfl rfl rfl (fun c81 => absurd c81 (by omega)) (fun c81 => ?_)
          replace c81 := (h_lcr hz80).2.2.1 c81
          clear hz80
          refine h_iconst (pc' := 14) (x := (Int32.ofInt 1)) rfl rfl rfl ?_
          refine h_goto (pc' := 18) rfl rfl ?_
          refine h_zret rfl rfl ci_1 (by omega) (h_Kv ?_)
          clear hz74 hz77
          refine h_zret rfl rfl ci_1 (by omega) (h_Kv ?_)
          refine h_zeq (tg := 77) (pc' := 57) rfl rfl rfl ci_1 (fun c82 => absurd c82 (by omega)) (fun c82 => ?_)
          refine h_iload_n (pc' := 58) rfl rfl rfl ?_
          refine h_zne (tg := 77) (pc' := 61) rfl rfl rfl hz70 (fun c83 => ?_) (fun c83 => absurd c83 (by omega))
          refine h_iconst (pc' := 78) (x := (Int32.ofInt 0)) rfl rfl rfl ?_
          refine h_iload_n (pc' := 79) rfl rfl rfl ?_
          refine h_iload_n (pc' := 80) rfl rfl rfl ?_
          refine h_iconst (pc' := 81) (x := (Int32.ofInt 0)) rfl rfl rfl ?_
          refine h_call (sp := false) (pc' := 84) (M := [(0, .ref 98), (1, .int (Int32.ofInt 0)), (2, .int z68), (3, .int z72), (4, .int (Int32.ofInt 0))]) rfl rfl rfl rfl rfl rfl rfl rfl ?_
          refine h_iload_n (pc' := 1) rfl rfl rfl ?_
          refine h_zne (tg := 6) (pc' := 4) rfl rfl rfl ci_0 (fun c84 => absurd (Int.le_antisymm (by omega) (by omega)) c84) (fun c84 => ?_)
          refine h_iconst (pc' := 5) (x := (Int32.ofInt (-1))) rfl rfl rfl ?_
          refine h_iret rfl rfl (h_Kv ?_)
          refine h_iret rfl rfl (h_Kv ?_)
          clear hz68 hz70 hz72
          refine h_pop (pc' := 535) rfl rfl rfl ?_
          refine h_goto (pc' := 1441) rfl rfl ?_
          exact kk _ I0 (by first | exact d_tape.le j0 (Int.le_antisymm (by omega) (by omega)) (by omega) (fun j => rfl) (fun j => rfl) | (exfalso; omega)) (Int.le_antisymm (by omega) (by omega)) j2 (g_ti.e j3 rfl) (g_SH.e j4 rfl rfl rfl rfl rfl rfl) (Int.le_antisymm (by omega) (by omega))
        · refine h_iload_n (pc' := 56) rfl rfl rfl ?_
          refine h_bipush (pc' := 58) (x := (Int32.ofInt (-4))) rfl rfl cb_m4 ?_
          refine h_ceq (tg := 70) (pc' := 61) rfl rfl rfl hz6 ci_m4 (fun c85 => ?_) (fun c85 => ?_)
          · refine h_aload_n (pc' := 71) rfl rfl rfl ?_
            refine h_getR (pc' := 74) rfl rfl rfl rfl rfl ?_
            refine h_getR (pc' := 77) rfl rfl rfl rfl rfl ?_
            refine h_iload_n (pc' := 78) rfl rfl rfl ?_
            refine h_iald (pc' := 79) (v := s0 12 (s0 0 (b3 + 1))) rfl rfl rfl hz2 (by omega) (by omega) rfl (fun z86 hz86 => ?_)
            have tz86 := ty_12 I0 (s0 0 (b3 + 1))
            refine h_istore (pc' := 81) (M := [(4, .int z86), (0, .ref 9), (1, .int z2), (2, .int z4), (3, .int z6)]) rfl rfl rfl rfl ?_
            refine h_aload_n (pc' := 82) rfl rfl rfl ?_
            refine h_getR (pc' := 85) rfl rfl rfl rfl rfl ?_
            refine h_getR (pc' := 88) rfl rfl rfl rfl rfl ?_
            refine h_iload_n (pc' := 89) rfl rfl rfl ?_
            refine h_iload_n (pc' := 90) rfl rfl rfl ?_
            refine h_iast (pc' := 91) rfl rfl rfl rfl hz2 (by omega) (by omega) hz6 (h_fgt (E := fun s => s 64 1 = s0 64 1 ∧ s 98 11 = s0 98 11 ∧ s 64 4 = s0 64 4 ∧ s 98 16 = s0 98 16 ∧ s 90 2 = s0 90 2 ∧ s 98 29 = s0 98 29 ∧ s 10 8 = s0 10 8 ∧ s 98 1 = s0 98 1 ∧ s = h_up s0 12 (s0 0 (b3 + 1)) (s0 0 (b3 + 3))) _ (in_12 I0 (by omega)) (F0_.up rfl) ⟨rfl, rfl, rfl, rfl, rfl, rfl, rfl, rfl, rfl⟩ (fun s87 Is87 Fs87 (es87 : s87 64 1 = s0 64 1 ∧ s87 98 11 = s0 98 11 ∧ s87 64 4 = s0 64 4 ∧ s87 98 16 = s0 98 16 ∧ s87 90 2 = s0 90 2 ∧ s87 98 29 = s0 98 29 ∧ s87 10 8 = s0 10 8 ∧ s87 98 1 = s0 98 1 ∧ s87 = h_up s0 12 (s0 0 (b3 + 1)) (s0 0 (b3 + 3))) => ?_))
            have us87 := es87.2.2.2.2.2.2.2.2
            have Zs87 : ∀ i, s87 0 i = s0 0 i := fun i => (h_upo us87 rfl i).trans rfl
            refine h_iload (pc' := 93) rfl rfl rfl ?_
            refine h_iret rfl rfl (h_Kv ?_)
            clear hz2 hz4 hz6
            refine h_pop (pc' := 515) rfl rfl rfl ?_
            clear hz86
            refine h_aload_n (pc' := 516) rfl rfl rfl ?_
            refine h_aload_n (pc' := 517) rfl rfl rfl ?_
            refine h_iload_n (pc' := 518) rfl rfl rfl ?_
            refine h_iconst (pc' := 519) (x := (Int32.ofInt 1)) rfl rfl rfl ?_
            refine h_iadd (pc' := 520) rfl rfl hy3 ci_1 rfl (by omega) (by omega) (fun z88 hz88 => ?_)
            refine h_iald (pc' := 521) (v := s0 0 (b3 + 1)) rfl rfl rfl hz88 (by omega) (by omega) (Zs87 _) (fun z89 hz89 => ?_)
            have tz89 := h_rgv hz89
            clear hz88
            refine h_aload_n (pc' := 522) rfl rfl rfl ?_
            refine h_iload_n (pc' := 523) rfl rfl rfl ?_
            refine h_iconst (pc' := 524) (x := (Int32.ofInt 2)) rfl rfl rfl ?_
            refine h_iadd (pc' := 525) rfl rfl hy3 ci_2 rfl (by omega) (by omega) (fun z90 hz90 => ?_)
            refine h_iald (pc' := 526) (v := s0 0 (b3 + 2)) rfl rfl rfl hz90 (by omega) (by omega) (Zs87 _) (fun z91 hz91 => ?_)
            have tz91 := h_rgv hz91
            clear hz90
            refine h_aload_n (pc' := 527) rfl rfl rfl ?_
            refine h_iload_n (pc' := 528) rfl rfl rfl ?_
            refine h_iconst (pc' := 529) (x := (Int32.ofInt 3)) rfl rfl rfl ?_
            refine h_iadd (pc' := 530) rfl rfl hy3 ci_3 rfl (by omega) (by omega) (fun z92 hz92 => ?_)
            refine h_iald (pc' := 531) (v := s0 0 (b3 + 3)) rfl rfl rfl hz92 (by omega) (by omega) (Zs87 _) (fun z93 hz93 => ?_)
            have tz93 := h_rgv hz93
            clear hz92
            refine h_call (sp := false) (pc' := 534) (M := [(0, .ref 98), (1, .int z89), (2, .int z91), (3, .int z93)]) rfl rfl rfl rfl rfl rfl rfl rfl ?_
            refine h_iload_n (pc' := 1) rfl rfl rfl ?_
            refine h_iconst (pc' := 2) (x := (Int32.ofInt 1)) rfl rfl rfl ?_
            refine h_cne (tg := 48) (pc' := 5) rfl rfl rfl hz91 ci_1 (fun c94 => absurd (Int.le_antisymm (by omega) (by omega)) c94) (fun c94 => ?_)
            refine h_aload_n (pc' := 6) rfl rfl rfl ?_
            refine h_aload_n (pc' := 7) rfl rfl rfl ?_
            refine h_iload_n (pc' := 8) rfl rfl rfl ?_
            refine h_call (sp := false) (pc' := 11) (M := [(0, .ref 98), (1, .int z89)]) rfl rfl rfl rfl rfl rfl rfl rfl ?_
            refine h_iload_n (pc' := 1) rfl rfl rfl ?_
            refine h_i2l (pc' := 2) rfl rfl hz89 (fun z95 hz95 => ?_)
            refine h_lconst (pc' := 3) (x := (Int64.ofInt 0)) rfl rfl rfl ?_
            refine h_aload_n (pc' := 4) rfl rfl rfl ?_
            refine h_getI (pc' := 7) (v := s0 98 1) rfl rfl rfl rfl rfl es87.2.2.2.2.2.2.2.1 (fun z96 hz96 => ?_)
            have tz96 := tf_98_1 I0
            refine h_iconst (pc' := 8) (x := (Int32.ofInt 1)) rfl rfl rfl ?_
            refine h_isub (pc' := 9) rfl rfl hz96 ci_1 rfl (by omega) (by omega) (fun z97 hz97 => ?_)
            clear hz96
            refine h_i2l (pc' := 10) rfl rfl hz97 (fun z98 hz98 => ?_)
            clear hz97
            refine h_calls (pc' := 13) (M := [(0, .long z95), (2, .long (Int64.ofInt 0)), (4, .long z98)]) rfl rfl rfl rfl rfl rfl ?_
            refine h_lload_n (pc' := 1) rfl rfl rfl ?_
            refine h_lload_n (pc' := 2) rfl rfl rfl ?_
            refine h_lcmp (pc' := 3) rfl rfl hz95 cl_0 (fun z99 hz99 => ?_)
            refine h_zlt (tg := 17) (pc' := 6) rfl rfl rfl rfl (fun c100 => absurd c100 (by omega)) (fun c100 => ?_)
            replace c100 := (h_lcr hz99).2.1 c100
            clear hz99
            refine h_lload_n (pc' := 7) rfl rfl rfl ?_
            refine h_lload (pc' := 9) rfl rfl rfl ?_
            refine h_lcmp (pc' := 10) rfl rfl hz95 hz98 (fun z101 hz101 => ?_)
            refine h_zgt (tg := 17) (pc' := 13) rfl rfl rfl rfl (fun c102 => absurd c102 (by omega)) (fun c102 => ?_)
            replace c102 := (h_lcr hz101).2.2.1 c102
            clear hz101
            refine h_iconst (pc' := 14) (x := (Int32.ofInt 1)) rfl rfl rfl ?_
            refine h_goto (pc' := 18) rfl rfl ?_
            refine h_zret rfl rfl ci_1 (by omega) (h_Kv ?_)
            clear hz95 hz98
            refine h_zret rfl rfl ci_1 (by omega) (h_Kv ?_)
            refine h_zeq (tg := 37) (pc' := 14) rfl rfl rfl ci_1 (fun c103 => absurd c103 (by omega)) (fun c103 => ?_)
            refine h_iload_n (pc' := 15) rfl rfl rfl ?_
            refine h_bipush (pc' := 17) (x := (Int32.ofInt (-4))) rfl rfl cb_m4 ?_
            refine h_ceq (tg := 33) (pc' := 20) rfl rfl rfl hz93 ci_m4 (fun c104 => ?_) (fun c104 => absurd (Int.le_antisymm (by omega) (by omega)) c104)
            refine h_iconst (pc' := 34) (x := (Int32.ofInt 1)) rfl rfl rfl ?_
            refine h_goto (pc' := 38) rfl rfl ?_
            refine h_bipush (pc' := 40) (x := (Int32.ofInt 6)) rfl rfl cb_6 ?_
            refine h_iload_n (pc' := 41) rfl rfl rfl ?_
            refine h_iadd (pc' := 42) rfl rfl ci_6 hz89 rfl (by have g0 := h_rgv hz89; omega) (by have g0 := h_rgv hz89; omega) (fun z105 hz105 => ?_)
            refine h_iload_n (pc' := 43) rfl rfl rfl ?_
            refine h_iconst (pc' := 44) (x := (Int32.ofInt 1)) rfl rfl rfl ?_
            refine h_call (sp := false) (pc' := 47) (M := [(0, .ref 98), (1, .int (Int32.ofInt 1)), (2, .int z105), (3, .int z93), (4, .int (Int32.ofInt 1))]) rfl rfl rfl rfl rfl rfl rfl rfl ?_
            refine h_iload_n (pc' := 1) rfl rfl rfl ?_
            refine h_zne (tg := 6) (pc' := 4) rfl rfl rfl ci_1 (fun c106 => ?_) (fun c106 => absurd c106 (by omega))
            refine h_iload (pc' := 8) rfl rfl rfl ?_
            refine h_zne (tg := 20) (pc' := 11) rfl rfl rfl ci_1 (fun c107 => ?_) (fun c107 => absurd c107 (by omega))
            refine h_aload_n (pc' := 21) rfl rfl rfl ?_
            refine h_getR (pc' := 24) rfl rfl rfl rfl rfl ?_
            refine h_iload_n (pc' := 25) rfl rfl rfl ?_
            refine h_iald (pc' := 26) (v := s87 99 (6 + (s0 0 (b3 + 1)))) rfl rfl rfl hz105 (by omega) (by omega) rfl (fun z108 hz108 => ?_)
            have tz108 := ty_99_1 Is87 (6 + (s0 0 (b3 + 1))) (by omega)
            refine h_calls (pc' := 29) (M := [(0, .int z108)]) rfl rfl rfl rfl rfl rfl ?_
            refine h_iload_n (pc' := 1) rfl rfl rfl ?_
            refine h_zne (tg := 9) (pc' := 4) rfl rfl rfl hz108 (fun c109 => ?_) (fun c109 => ?_)
            · refine h_iload_n (pc' := 10) rfl rfl rfl ?_
              refine h_iconst (pc' := 11) (x := (Int32.ofInt 1)) rfl rfl rfl ?_
              refine h_isub (pc' := 12) rfl rfl hz108 ci_1 rfl (by omega) (by omega) (fun z110 hz110 => ?_)
              refine h_iret rfl rfl (h_Kv ?_)
              clear hz108
              refine h_istore (pc' := 31) (M := [(5, .int z110), (0, .ref 98), (1, .int (Int32.ofInt 1)), (2, .int z105), (3, .int z93), (4, .int (Int32.ofInt 1))]) rfl rfl rfl rfl ?_
              refine h_aload_n (pc' := 32) rfl rfl rfl ?_
              refine h_getR (pc' := 35) rfl rfl rfl rfl rfl ?_
              refine h_iload_n (pc' := 36) rfl rfl rfl ?_
              refine h_iload (pc' := 38) rfl rfl rfl ?_
              refine h_zne (tg := 45) (pc' := 41) rfl rfl rfl ci_1 (fun c111 => ?_) (fun c111 => absurd c111 (by omega))
              refine h_iload_n (pc' := 46) rfl rfl rfl ?_
              refine h_bipush (pc' := 48) (x := (Int32.ofInt (-4))) rfl rfl cb_m4 ?_
              refine h_cne (tg := 55) (pc' := 51) rfl rfl rfl hz93 ci_m4 (fun c112 => absurd (Int.le_antisymm (by omega) (by omega)) c112) (fun c112 => ?_)
              refine h_iconst (pc' := 52) (x := (Int32.ofInt 0)) rfl rfl rfl ?_
              refine h_goto (pc' := 58) rfl rfl ?_
              refine h_iast (pc' := 59) rfl rfl rfl rfl hz105 (by omega) (by omega) ci_0 (h_fgt (E := fun s => s 64 1 = s0 64 1 ∧ s 98 11 = s0 98 11 ∧ s 64 4 = s0 64 4 ∧ s 98 16 = s0 98 16 ∧ s 90 2 = s0 90 2 ∧ s 98 29 = s0 98 29 ∧ s 10 8 = s0 10 8 ∧ s 98 1 = s0 98 1 ∧ s = h_up s87 99 (6 + (s0 0 (b3 + 1))) 0) _ (ip_99_1 Is87 (by omega) (by omega)) (Fs87.up rfl) ⟨es87.1, es87.2.1, es87.2.2.1, es87.2.2.2.1, es87.2.2.2.2.1, es87.2.2.2.2.2.1, es87.2.2.2.2.2.2.1, es87.2.2.2.2.2.2.2.1, rfl⟩ (fun s113 Is113 Fs113 (es113 : s113 64 1 = s0 64 1 ∧ s113 98 11 = s0 98 11 ∧ s113 64 4 = s0 64 4 ∧ s113 98 16 = s0 98 16 ∧ s113 90 2 = s0 90 2 ∧ s113 98 29 = s0 98 29 ∧ s113 10 8 = s0 10 8 ∧ s113 98 1 = s0 98 1 ∧ s113 = h_up s87 99 (6 + (s0 0 (b3 + 1))) 0) => ?_))
              clear es87
              have us113 := es113.2.2.2.2.2.2.2.2
              have Zs113 : ∀ i, s113 0 i = s0 0 i := fun i => (h_upo us113 rfl i).trans (Zs87 i)
              refine h_iload (pc' := 61) rfl rfl rfl ?_
              refine h_iret rfl rfl (h_Kv ?_)
              clear hz105
              refine h_iret rfl rfl (h_Kv ?_)
              clear hz89 hz91 hz93
              refine h_pop (pc' := 535) rfl rfl rfl ?_
              clear hz110
              refine h_goto (pc' := 1441) rfl rfl ?_
              exact kk _ Is113 (by first | exact d_tape.le j0 (Int.le_antisymm (by omega) (by omega)) (by omega) (fun j => (h_upo us113 rfl j).trans ((h_upo us87 rfl j))) (fun j => (h_upo us113 rfl j).trans ((h_upo us87 rfl j))) | (exfalso; omega)) (Int.le_antisymm (by omega) (by omega)) (c_R.par j2 I0 (by omega) (by omega) (Int.le_antisymm (by omega) (by omega)) (by omega) (fun j => (h_upo us113 rfl j).trans ((h_upi us87 j)))  (fun j => (h_upi us113 j).trans (congrArg (fun z => if j = (6 + (s0 0 (b3 + 1))) then 0 else z) ((h_upo us87 rfl j))))  (fun p j n0 n1 => (h_upq us113 n1 j).trans ((h_upq us87 n0 j)))) (g_ti.e j3 ((h_upg us113 rfl).trans (h_upg us87 rfl))) (g_SH.e j4 ((h_upg us113 rfl).trans (h_upg us87 rfl)) ((h_upg us113 rfl).trans (h_upg us87 rfl)) ((h_upg us113 rfl).trans (h_upg us87 rfl)) ((h_upg us113 rfl).trans (h_upg us87 rfl)) ((h_upg us113 rfl).trans (h_upg us87 rfl)) ((h_upg us113 rfl).trans (h_upg us87 rfl))) (Int.le_antisymm (by omega) (by omega))
            · refine h_bipush (pc' := 6) (x := (Int32.ofInt (-4))) rfl rfl cb_m4 ?_
              refine h_goto (pc' := 12) rfl rfl ?_
              refine h_iret rfl rfl (h_Kv ?_)
              clear hz108
              refine h_istore (pc' := 31) (M := [(5, .int (Int32.ofInt (-4))), (0, .ref 98), (1, .int (Int32.ofInt 1)), (2, .int z105), (3, .int z93), (4, .int (Int32.ofInt 1))]) rfl rfl rfl rfl ?_
              refine h_aload_n (pc' := 32) rfl rfl rfl ?_
              refine h_getR (pc' := 35) rfl rfl rfl rfl rfl ?_
              refine h_iload_n (pc' := 36) rfl rfl rfl ?_
              refine h_iload (pc' := 38) rfl rfl rfl ?_
              refine h_zne (tg := 45) (pc' := 41) rfl rfl rfl ci_1 (fun c114 => ?_) (fun c114 => absurd c114 (by omega))
              refine h_iload_n (pc' := 46) rfl rfl rfl ?_
              refine h_bipush (pc' := 48) (x := (Int32.ofInt (-4))) rfl rfl cb_m4 ?_
              refine h_cne (tg := 55) (pc' := 51) rfl rfl rfl hz93 ci_m4 (fun c115 => absurd (Int.le_antisymm (by omega) (by omega)) c115) (fun c115 => ?_)
              refine h_iconst (pc' := 52) (x := (Int32.ofInt 0)) rfl rfl rfl ?_
              refine h_goto (pc' := 58) rfl rfl ?_
              refine h_iast (pc' := 59) rfl rfl rfl rfl hz105 (by omega) (by omega) ci_0 (h_fgt (E := fun s => s 64 1 = s0 64 1 ∧ s 98 11 = s0 98 11 ∧ s 64 4 = s0 64 4 ∧ s 98 16 = s0 98 16 ∧ s 90 2 = s0 90 2 ∧ s 98 29 = s0 98 29 ∧ s 10 8 = s0 10 8 ∧ s 98 1 = s0 98 1 ∧ s = h_up s87 99 (6 + (s0 0 (b3 + 1))) 0) _ (ip_99_1 Is87 (by omega) (by omega)) (Fs87.up rfl) ⟨es87.1, es87.2.1, es87.2.2.1, es87.2.2.2.1, es87.2.2.2.2.1, es87.2.2.2.2.2.1, es87.2.2.2.2.2.2.1, es87.2.2.2.2.2.2.2.1, rfl⟩ (fun s116 Is116 Fs116 (es116 : s116 64 1 = s0 64 1 ∧ s116 98 11 = s0 98 11 ∧ s116 64 4 = s0 64 4 ∧ s116 98 16 = s0 98 16 ∧ s116 90 2 = s0 90 2 ∧ s116 98 29 = s0 98 29 ∧ s116 10 8 = s0 10 8 ∧ s116 98 1 = s0 98 1 ∧ s116 = h_up s87 99 (6 + (s0 0 (b3 + 1))) 0) => ?_))
              clear es87
              have us116 := es116.2.2.2.2.2.2.2.2
              have Zs116 : ∀ i, s116 0 i = s0 0 i := fun i => (h_upo us116 rfl i).trans (Zs87 i)
              refine h_iload (pc' := 61) rfl rfl rfl ?_
              refine h_iret rfl rfl (h_Kv ?_)
              clear hz105
              refine h_iret rfl rfl (h_Kv ?_)
              clear hz89 hz91 hz93
              refine h_pop (pc' := 535) rfl rfl rfl ?_
              refine h_goto (pc' := 1441) rfl rfl ?_
              exact kk _ Is116 (by first | exact d_tape.le j0 (Int.le_antisymm (by omega) (by omega)) (by omega) (fun j => (h_upo us116 rfl j).trans ((h_upo us87 rfl j))) (fun j => (h_upo us116 rfl j).trans ((h_upo us87 rfl j))) | (exfalso; omega)) (Int.le_antisymm (by omega) (by omega)) (c_R.par j2 I0 (by omega) (by omega) (Int.le_antisymm (by omega) (by omega)) (by omega) (fun j => (h_upo us116 rfl j).trans ((h_upi us87 j)))  (fun j => (h_upi us116 j).trans (congrArg (fun z => if j = (6 + (s0 0 (b3 + 1))) then 0 else z) ((h_upo us87 rfl j))))  (fun p j n0 n1 => (h_upq us116 n1 j).trans ((h_upq us87 n0 j)))) (g_ti.e j3 ((h_upg us116 rfl).trans (h_upg us87 rfl))) (g_SH.e j4 ((h_upg us116 rfl).trans (h_upg us87 rfl)) ((h_upg us116 rfl).trans (h_upg us87 rfl)) ((h_upg us116 rfl).trans (h_upg us87 rfl)) ((h_upg us116 rfl).trans (h_upg us87 rfl)) ((h_upg us116 rfl).trans (h_upg us87 rfl)) ((h_upg us116 rfl).trans (h_upg us87 rfl))) (Int.le_antisymm (by omega) (by omega))
          · refine h_iload_n (pc' := 62) rfl rfl rfl ?_
            refine h_zlt (tg := 94) (pc' := 65) rfl rfl rfl hz6 (fun c117 => ?_) (fun c117 => ?_)
            · refine h_iconst (pc' := 95) (x := (Int32.ofInt (-1))) rfl rfl rfl ?_
              refine h_iret rfl rfl (h_Kv ?_)
              clear hz2 hz4 hz6
              refine h_pop (pc' := 515) rfl rfl rfl ?_
              refine h_aload_n (pc' := 516) rfl rfl rfl ?_
              refine h_aload_n (pc' := 517) rfl rfl rfl ?_
              refine h_iload_n (pc' := 518) rfl rfl rfl ?_
              refine h_iconst (pc' := 519) (x := (Int32.ofInt 1)) rfl rfl rfl ?_
              refine h_iadd (pc' := 520) rfl rfl hy3 ci_1 rfl (by omega) (by omega) (fun z118 hz118 => ?_)
              refine h_iald (pc' := 521) (v := s0 0 (b3 + 1)) rfl rfl rfl hz118 (by omega) (by omega) rfl (fun z119 hz119 => ?_)
              have tz119 := h_rgv hz119
              clear hz118
              refine h_aload_n (pc' := 522) rfl rfl rfl ?_
              refine h_iload_n (pc' := 523) rfl rfl rfl ?_
              refine h_iconst (pc' := 524) (x := (Int32.ofInt 2)) rfl rfl rfl ?_
              refine h_iadd (pc' := 525) rfl rfl hy3 ci_2 rfl (by omega) (by omega) (fun z120 hz120 => ?_)
              refine h_iald (pc' := 526) (v := s0 0 (b3 + 2)) rfl rfl rfl hz120 (by omega) (by omega) rfl (fun z121 hz121 => ?_)
              have tz121 := h_rgv hz121
              clear hz120
              refine h_aload_n (pc' := 527) rfl rfl rfl ?_
              refine h_iload_n (pc' := 528) rfl rfl rfl ?_
              refine h_iconst (pc' := 529) (x := (Int32.ofInt 3)) rfl rfl rfl ?_
              refine h_iadd (pc' := 530) rfl rfl hy3 ci_3 rfl (by omega) (by omega) (fun z122 hz122 => ?_)
              refine h_iald (pc' := 531) (v := s0 0 (b3 + 3)) rfl rfl rfl hz122 (by omega) (by omega) rfl (fun z123 hz123 => ?_)
              have tz123 := h_rgv hz123
              clear hz122
              refine h_call (sp := false) (pc' := 534) (M := [(0, .ref 98), (1, .int z119), (2, .int z121), (3, .int z123)]) rfl rfl rfl rfl rfl rfl rfl rfl ?_
              refine h_iload_n (pc' := 1) rfl rfl rfl ?_
              refine h_iconst (pc' := 2) (x := (Int32.ofInt 1)) rfl rfl rfl ?_
              refine h_cne (tg := 48) (pc' := 5) rfl rfl rfl hz121 ci_1 (fun c124 => absurd (Int.le_antisymm (by omega) (by omega)) c124) (fun c124 => ?_)
              refine h_aload_n (pc' := 6) rfl rfl rfl ?_
              refine h_aload_n (pc' := 7) rfl rfl rfl ?_
              refine h_iload_n (pc' := 8) rfl rfl rfl ?_
              refine h_call (sp := false) (pc' := 11) (M := [(0, .ref 98), (1, .int z119)]) rfl rfl rfl rfl rfl rfl rfl rfl ?_
              refine h_iload_n (pc' := 1) rfl rfl rfl ?_
              refine h_i2l (pc' := 2) rfl rfl hz119 (fun z125 hz125 => ?_)
              refine h_lconst (pc' := 3) (x := (Int64.ofInt 0)) rfl rfl rfl ?_
              refine h_aload_n (pc' := 4) rfl rfl rfl ?_
              refine h_getI (pc' := 7) (v := s0 98 1) rfl rfl rfl rfl rfl rfl (fun z126 hz126 => ?_)
              have tz126 := tf_98_1 I0
              refine h_iconst (pc' := 8) (x := (Int32.ofInt 1)) rfl rfl rfl ?_
              refine h_isub (pc' := 9) rfl rfl hz126 ci_1 rfl (by omega) (by omega) (fun z127 hz127 => ?_)
              clear hz126
              refine h_i2l (pc' := 10) rfl rfl hz127 (fun z128 hz128 => ?_)
              clear hz127
              refine h_calls (pc' := 13) (M := [(0, .long z125), (2, .long (Int64.ofInt 0)), (4, .long z128)]) rfl rfl rfl rfl rfl rfl ?_
              refine h_lload_n (pc' := 1) rfl rfl rfl ?_
              refine h_lload_n (pc' := 2) rfl rfl rfl ?_
              refine h_lcmp (pc' := 3) rfl rfl hz125 cl_0 (fun z129 hz129 => ?_)
              refine h_zlt (tg := 17) (pc' := 6) rfl rfl rfl rfl (fun c130 => absurd c130 (by omega)) (fun c130 => ?_)
              replace c130 := (h_lcr hz129).2.1 c130
              clear hz129
              refine h_lload_n (pc' := 7) rfl rfl rfl ?_
              refine h_lload (pc' := 9) rfl rfl rfl ?_
              refine h_lcmp (pc' := 10) rfl rfl hz125 hz128 (fun z131 hz131 => ?_)
              refine h_zgt (tg := 17) (pc' := 13) rfl rfl rfl rfl (fun c132 => absurd c132 (by omega)) (fun c132 => ?_)
              replace c132 := (h_lcr hz131).2.2.1 c132
              clear hz131
              refine h_iconst (pc' := 14) (x := (Int32.ofInt 1)) rfl rfl rfl ?_
              refine h_goto (pc' := 18) rfl rfl ?_
              refine h_zret rfl rfl ci_1 (by omega) (h_Kv ?_)
              clear hz125 hz128
              refine h_zret rfl rfl ci_1 (by omega) (h_Kv ?_)
              refine h_zeq (tg := 37) (pc' := 14) rfl rfl rfl ci_1 (fun c133 => absurd c133 (by omega)) (fun c133 => ?_)
              refine h_iload_n (pc' := 15) rfl rfl rfl ?_
              refine h_bipush (pc' := 17) (x := (Int32.ofInt (-4))) rfl rfl cb_m4 ?_
              refine h_ceq (tg := 33) (pc' := 20) rfl rfl rfl hz123 ci_m4 (fun c134 => absurd c134 (by omega)) (fun c134 => ?_)
              refine h_iload_n (pc' := 21) rfl rfl rfl ?_
              refine h_i2l (pc' := 22) rfl rfl hz123 (fun z135 hz135 => ?_)
              refine h_lconst (pc' := 23) (x := (Int64.ofInt 0)) rfl rfl rfl ?_
              refine h_iload_n (pc' := 24) rfl rfl rfl ?_
              refine h_iconst (pc' := 25) (x := (Int32.ofInt 1)) rfl rfl rfl ?_
              refine h_isub (pc' := 26) rfl rfl hz119 ci_1 rfl (by have g0 := h_rgv hz119; omega) (by have g0 := h_rgv hz119; omega) (fun z136 hz136 => ?_)
              refine h_i2l (pc' := 27) rfl rfl hz136 (fun z137 hz137 => ?_)
              clear hz136
              refine h_calls (pc' := 30) (M := [(0, .long z135), (2, .long (Int64.ofInt 0)), (4, .long z137)]) rfl rfl rfl rfl rfl rfl ?_
              refine h_lload_n (pc' := 1) rfl rfl rfl ?_
              refine h_lload_n (pc' := 2) rfl rfl rfl ?_
              refine h_lcmp (pc' := 3) rfl rfl hz135 cl_0 (fun z138 hz138 => ?_)
              refine h_zlt (tg := 17) (pc' := 6) rfl rfl rfl rfl (fun c139 => ?_) (fun c139 => absurd c139 (by omega))
              replace c139 := (h_lcr hz138).1 c139
              clear hz138
              refine h_iconst (pc' := 18) (x := (Int32.ofInt 0)) rfl rfl rfl ?_
              refine h_zret rfl rfl ci_0 (by omega) (h_Kv ?_)
              clear hz135 hz137
              refine h_zeq (tg := 37) (pc' := 33) rfl rfl rfl ci_0 (fun c140 => ?_) (fun c140 => absurd (Int.le_antisymm (by omega) (by omega)) c140)
              refine h_iconst (pc' := 38) (x := (Int32.ofInt 0)) rfl rfl rfl ?_
              refine h_bipush (pc' := 40) (x := (Int32.ofInt 6)) rfl rfl cb_6 ?_
              refine h_iload_n (pc' := 41) rfl rfl rfl ?_
              refine h_iadd (pc' := 42) rfl rfl ci_6 hz119 rfl (by have g0 := h_rgv hz119; omega) (by have g0 := h_rgv hz119; omega) (fun z141 hz141 => ?_)
              refine h_iload_n (pc' := 43) rfl rfl rfl ?_
              refine h_iconst (pc' := 44) (x := (Int32.ofInt 1)) rfl rfl rfl ?_
              refine h_call (sp := false) (pc' := 47) (M := [(0, .ref 98), (1, .int (Int32.ofInt 0)), (2, .int z141), (3, .int z123), (4, .int (Int32.ofInt 1))]) rfl rfl rfl rfl rfl rfl rfl rfl ?_
              refine h_iload_n (pc' := 1) rfl rfl rfl ?_
              refine h_zne (tg := 6) (pc' := 4) rfl rfl rfl ci_0 (fun c142 => absurd (Int.le_antisymm (by omega) (by omega)) c142) (fun c142 => ?_)
              refine h_iconst (pc' := 5) (x := (Int32.ofInt (-1))) rfl rfl rfl ?_
              refine h_iret rfl rfl (h_Kv ?_)
              clear hz141
              refine h_iret rfl rfl (h_Kv ?_)
              clear hz119 hz121 hz123
              refine h_pop (pc' := 535) rfl rfl rfl ?_
              refine h_goto (pc' := 1441) rfl rfl ?_
              exact kk _ I0 (by first | exact d_tape.le j0 (Int.le_antisymm (by omega) (by omega)) (by omega) (fun j => rfl) (fun j => rfl) | (exfalso; omega)) (Int.le_antisymm (by omega) (by omega)) j2 (g_ti.e j3 rfl) (g_SH.e j4 rfl rfl rfl rfl rfl rfl) (Int.le_antisymm (by omega) (by omega))
            · refine h_iload_n (pc' := 66) rfl rfl rfl ?_
              refine h_iload_n (pc' := 67) rfl rfl rfl ?_
              refine h_cge (tg := 94) (pc' := 70) rfl rfl rfl hz6 hz2 (fun c143 => ?_) (fun c143 => ?_)
              · refine h_iconst (pc' := 95) (x := (Int32.ofInt (-1))) rfl rfl rfl ?_
                refine h_iret rfl rfl (h_Kv ?_)
                clear hz2 hz4 hz6
                refine h_pop (pc' := 515) rfl rfl rfl ?_
                refine h_aload_n (pc' := 516) rfl rfl rfl ?_
                refine h_aload_n (pc' := 517) rfl rfl rfl ?_
                refine h_iload_n (pc' := 518) rfl rfl rfl ?_
                refine h_iconst (pc' := 519) (x := (Int32.ofInt 1)) rfl rfl rfl ?_
                refine h_iadd (pc' := 520) rfl rfl hy3 ci_1 rfl (by omega) (by omega) (fun z144 hz144 => ?_)
                refine h_iald (pc' := 521) (v := s0 0 (b3 + 1)) rfl rfl rfl hz144 (by omega) (by omega) rfl (fun z145 hz145 => ?_)
                have tz145 := h_rgv hz145
                clear hz144
                refine h_aload_n (pc' := 522) rfl rfl rfl ?_
                refine h_iload_n (pc' := 523) rfl rfl rfl ?_
                refine h_iconst (pc' := 524) (x := (Int32.ofInt 2)) rfl rfl rfl ?_
                refine h_iadd (pc' := 525) rfl rfl hy3 ci_2 rfl (by omega) (by omega) (fun z146 hz146 => ?_)
                refine h_iald (pc' := 526) (v := s0 0 (b3 + 2)) rfl rfl rfl hz146 (by omega) (by omega) rfl (fun z147 hz147 => ?_)
                have tz147 := h_rgv hz147
                clear hz146
                refine h_aload_n (pc' := 527) rfl rfl rfl ?_
                refine h_iload_n (pc' := 528) rfl rfl rfl ?_
                refine h_iconst (pc' := 529) (x := (Int32.ofInt 3)) rfl rfl rfl ?_
                refine h_iadd (pc' := 530) rfl rfl hy3 ci_3 rfl (by omega) (by omega) (fun z148 hz148 => ?_)
                refine h_iald (pc' := 531) (v := s0 0 (b3 + 3)) rfl rfl rfl hz148 (by omega) (by omega) rfl (fun z149 hz149 => ?_)
                have tz149 := h_rgv hz149
                clear hz148
                refine h_call (sp := false) (pc' := 534) (M := [(0, .ref 98), (1, .int z145), (2, .int z147), (3, .int z149)]) rfl rfl rfl rfl rfl rfl rfl rfl ?_
                refine h_iload_n (pc' := 1) rfl rfl rfl ?_
                refine h_iconst (pc' := 2) (x := (Int32.ofInt 1)) rfl rfl rfl ?_
                refine h_cne (tg := 48) (pc' := 5) rfl rfl rfl hz147 ci_1 (fun c150 => absurd (Int.le_antisymm (by omega) (by omega)) c150) (fun c150 => ?_)
                refine h_aload_n (pc' := 6) rfl rfl rfl ?_
                refine h_aload_n (pc' := 7) rfl rfl rfl ?_
                refine h_iload_n (pc' := 8) rfl rfl rfl ?_
                refine h_call (sp := false) (pc' := 11) (M := [(0, .ref 98), (1, .int z145)]) rfl rfl rfl rfl rfl rfl rfl rfl ?_
                refine h_iload_n (pc' := 1) rfl rfl rfl ?_
                refine h_i2l (pc' := 2) rfl rfl hz145 (fun z151 hz151 => ?_)
                refine h_lconst (pc' := 3) (x := (Int64.ofInt 0)) rfl rfl rfl ?_
                refine h_aload_n (pc' := 4) rfl rfl rfl ?_
                refine h_getI (pc' := 7) (v := s0 98 1) rfl rfl rfl rfl rfl rfl (fun z152 hz152 => ?_)
                have tz152 := tf_98_1 I0
                refine h_iconst (pc' := 8) (x := (Int32.ofInt 1)) rfl rfl rfl ?_
                refine h_isub (pc' := 9) rfl rfl hz152 ci_1 rfl (by omega) (by omega) (fun z153 hz153 => ?_)
                clear hz152
                refine h_i2l (pc' := 10) rfl rfl hz153 (fun z154 hz154 => ?_)
                clear hz153
                refine h_calls (pc' := 13) (M := [(0, .long z151), (2, .long (Int64.ofInt 0)), (4, .long z154)]) rfl rfl rfl rfl rfl rfl ?_
                refine h_lload_n (pc' := 1) rfl rfl rfl ?_
                refine h_lload_n (pc' := 2) rfl rfl rfl ?_
                refine h_lcmp (pc' := 3) rfl rfl hz151 cl_0 (fun z155 hz155 => ?_)
                refine h_zlt (tg := 17) (pc' := 6) rfl rfl rfl rfl (fun c156 => absurd c156 (by omega)) (fun c156 => ?_)
                replace c156 := (h_lcr hz155).2.1 c156
                clear hz155
                refine h_lload_n (pc' := 7) rfl rfl rfl ?_
                refine h_lload (pc' := 9) rfl rfl rfl ?_
                refine h_lcmp (pc' := 10) rfl rfl hz151 hz154 (fun z157 hz157 => ?_)
                refine h_zgt (tg := 17) (pc' := 13) rfl rfl rfl rfl (fun c158 => absurd c158 (by omega)) (fun c158 => ?_)
                replace c158 := (h_lcr hz157).2.2.1 c158
                clear hz157
                refine h_iconst (pc' := 14) (x := (Int32.ofInt 1)) rfl rfl rfl ?_
                refine h_goto (pc' := 18) rfl rfl ?_
                refine h_zret rfl rfl ci_1 (by omega) (h_Kv ?_)
                clear hz151 hz154
                refine h_zret rfl rfl ci_1 (by omega) (h_Kv ?_)
                refine h_zeq (tg := 37) (pc' := 14) rfl rfl rfl ci_1 (fun c159 => absurd c159 (by omega)) (fun c159 => ?_)
                refine h_iload_n (pc' := 15) rfl rfl rfl ?_
                refine h_bipush (pc' := 17) (x := (Int32.ofInt (-4))) rfl rfl cb_m4 ?_
                refine h_ceq (tg := 33) (pc' := 20) rfl rfl rfl hz149 ci_m4 (fun c160 => absurd c160 (by omega)) (fun c160 => ?_)
                refine h_iload_n (pc' := 21) rfl rfl rfl ?_
                refine h_i2l (pc' := 22) rfl rfl hz149 (fun z161 hz161 => ?_)
                refine h_lconst (pc' := 23) (x := (Int64.ofInt 0)) rfl rfl rfl ?_
                refine h_iload_n (pc' := 24) rfl rfl rfl ?_
                refine h_iconst (pc' := 25) (x := (Int32.ofInt 1)) rfl rfl rfl ?_
                refine h_isub (pc' := 26) rfl rfl hz145 ci_1 rfl (by have g0 := h_rgv hz145; omega) (by have g0 := h_rgv hz145; omega) (fun z162 hz162 => ?_)
                refine h_i2l (pc' := 27) rfl rfl hz162 (fun z163 hz163 => ?_)
                clear hz162
                refine h_calls (pc' := 30) (M := [(0, .long z161), (2, .long (Int64.ofInt 0)), (4, .long z163)]) rfl rfl rfl rfl rfl rfl ?_
                refine h_lload_n (pc' := 1) rfl rfl rfl ?_
                refine h_lload_n (pc' := 2) rfl rfl rfl ?_
                refine h_lcmp (pc' := 3) rfl rfl hz161 cl_0 (fun z164 hz164 => ?_)
                refine h_zlt (tg := 17) (pc' := 6) rfl rfl rfl rfl (fun c165 => absurd c165 (by omega)) (fun c165 => ?_)
                replace c165 := (h_lcr hz164).2.1 c165
                clear hz164
                refine h_lload_n (pc' := 7) rfl rfl rfl ?_
                refine h_lload (pc' := 9) rfl rfl rfl ?_
                refine h_lcmp (pc' := 10) rfl rfl hz161 hz163 (fun z166 hz166 => ?_)
                refine h_zgt (tg := 17) (pc' := 13) rfl rfl rfl rfl (fun c167 => ?_) (fun c167 => absurd c167 (by omega))
                replace c167 := (h_lcr hz166).2.2.2.1 c167
                clear hz166
                refine h_iconst (pc' := 18) (x := (Int32.ofInt 0)) rfl rfl rfl ?_
                refine h_zret rfl rfl ci_0 (by omega) (h_Kv ?_)
                clear hz161 hz163
                refine h_zeq (tg := 37) (pc' := 33) rfl rfl rfl ci_0 (fun c168 => ?_) (fun c168 => absurd (Int.le_antisymm (by omega) (by omega)) c168)
                refine h_iconst (pc' := 38) (x := (Int32.ofInt 0)) rfl rfl rfl ?_
                refine h_bipush (pc' := 40) (x := (Int32.ofInt 6)) rfl rfl cb_6 ?_
                refine h_iload_n (pc' := 41) rfl rfl rfl ?_
                refine h_iadd (pc' := 42) rfl rfl ci_6 hz145 rfl (by have g0 := h_rgv hz145; omega) (by have g0 := h_rgv hz145; omega) (fun z169 hz169 => ?_)
                refine h_iload_n (pc' := 43) rfl rfl rfl ?_
                refine h_iconst (pc' := 44) (x := (Int32.ofInt 1)) rfl rfl rfl ?_
                refine h_call (sp := false) (pc' := 47) (M := [(0, .ref 98), (1, .int (Int32.ofInt 0)), (2, .int z169), (3, .int z149), (4, .int (Int32.ofInt 1))]) rfl rfl rfl rfl rfl rfl rfl rfl ?_
                refine h_iload_n (pc' := 1) rfl rfl rfl ?_
                refine h_zne (tg := 6) (pc' := 4) rfl rfl rfl ci_0 (fun c170 => absurd (Int.le_antisymm (by omega) (by omega)) c170) (fun c170 => ?_)
                refine h_iconst (pc' := 5) (x := (Int32.ofInt (-1))) rfl rfl rfl ?_
                refine h_iret rfl rfl (h_Kv ?_)
                clear hz169
                refine h_iret rfl rfl (h_Kv ?_)
                clear hz145 hz147 hz149
                refine h_pop (pc' := 535) rfl rfl rfl ?_
                refine h_goto (pc' := 1441) rfl rfl ?_
                exact kk _ I0 (by first | exact d_tape.le j0 (Int.le_antisymm (by omega) (by omega)) (by omega) (fun j => rfl) (fun j => rfl) | (exfalso; omega)) (Int.le_antisymm (by omega) (by omega)) j2 (g_ti.e j3 rfl) (g_SH.e j4 rfl rfl rfl rfl rfl rfl) (Int.le_antisymm (by omega) (by omega))
              · refine h_aload_n (pc' := 71) rfl rfl rfl ?_
                refine h_getR (pc' := 74) rfl rfl rfl rfl rfl ?_
                refine h_getR (pc' := 77) rfl rfl rfl rfl rfl ?_
                refine h_iload_n (pc' := 78) rfl rfl rfl ?_
                refine h_iald (pc' := 79) (v := s0 12 (s0 0 (b3 + 1))) rfl rfl rfl hz2 (by omega) (by omega) rfl (fun z171 hz171 => ?_)
                have tz171 := ty_12 I0 (s0 0 (b3 + 1))
                refine h_istore (pc' := 81) (M := [(4, .int z171), (0, .ref 9), (1, .int z2), (2, .int z4), (3, .int z6)]) rfl rfl rfl rfl ?_
                refine h_aload_n (pc' := 82) rfl rfl rfl ?_
                refine h_getR (pc' := 85) rfl rfl rfl rfl rfl ?_
                refine h_getR (pc' := 88) rfl rfl rfl rfl rfl ?_
                refine h_iload_n (pc' := 89) rfl rfl rfl ?_
                refine h_iload_n (pc' := 90) rfl rfl rfl ?_
                refine h_iast (pc' := 91) rfl rfl rfl rfl hz2 (by omega) (by omega) hz6 (h_fgt (E := fun s => s 64 1 = s0 64 1 ∧ s 98 11 = s0 98 11 ∧ s 64 4 = s0 64 4 ∧ s 98 16 = s0 98 16 ∧ s 90 2 = s0 90 2 ∧ s 98 29 = s0 98 29 ∧ s 10 8 = s0 10 8 ∧ s 98 1 = s0 98 1 ∧ s = h_up s0 12 (s0 0 (b3 + 1)) (s0 0 (b3 + 3))) _ (in_12 I0 (by omega)) (F0_.up rfl) ⟨rfl, rfl, rfl, rfl, rfl, rfl, rfl, rfl, rfl⟩ (fun s172 Is172 Fs172 (es172 : s172 64 1 = s0 64 1 ∧ s172 98 11 = s0 98 11 ∧ s172 64 4 = s0 64 4 ∧ s172 98 16 = s0 98 16 ∧ s172 90 2 = s0 90 2 ∧ s172 98 29 = s0 98 29 ∧ s172 10 8 = s0 10 8 ∧ s172 98 1 = s0 98 1 ∧ s172 = h_up s0 12 (s0 0 (b3 + 1)) (s0 0 (b3 + 3))) => ?_))
                have us172 := es172.2.2.2.2.2.2.2.2
                have Zs172 : ∀ i, s172 0 i = s0 0 i := fun i => (h_upo us172 rfl i).trans rfl
                refine h_iload (pc' := 93) rfl rfl rfl ?_
                refine h_iret rfl rfl (h_Kv ?_)
                clear hz2 hz4 hz6
                refine h_pop (pc' := 515) rfl rfl rfl ?_
                clear hz171
                refine h_aload_n (pc' := 516) rfl rfl rfl ?_
                refine h_aload_n (pc' := 517) rfl rfl rfl ?_
                refine h_iload_n (pc' := 518) rfl rfl rfl ?_
                refine h_iconst (pc' := 519) (x := (Int32.ofInt 1)) rfl rfl rfl ?_
                refine h_iadd (pc' := 520) rfl rfl hy3 ci_1 rfl (by omega) (by omega) (fun z173 hz173 => ?_)
                refine h_iald (pc' := 521) (v := s0 0 (b3 + 1)) rfl rfl rfl hz173 (by omega) (by omega) (Zs172 _) (fun z174 hz174 => ?_)
                have tz174 := h_rgv hz174
                clear hz173
                refine h_aload_n (pc' := 522) rfl rfl rfl ?_
                refine h_iload_n (pc' := 523) rfl rfl rfl ?_
                refine h_iconst (pc' := 524) (x := (Int32.ofInt 2)) rfl rfl rfl ?_
                refine h_iadd (pc' := 525) rfl rfl hy3 ci_2 rfl (by omega) (by omega) (fun z175 hz175 => ?_)
                refine h_iald (pc' := 526) (v := s0 0 (b3 + 2)) rfl rfl rfl hz175 (by omega) (by omega) (Zs172 _) (fun z176 hz176 => ?_)
                have tz176 := h_rgv hz176
                clear hz175
                refine h_aload_n (pc' := 527) rfl rfl rfl ?_
                refine h_iload_n (pc' := 528) rfl rfl rfl ?_
                refine h_iconst (pc' := 529) (x := (Int32.ofInt 3)) rfl rfl rfl ?_
                refine h_iadd (pc' := 530) rfl rfl hy3 ci_3 rfl (by omega) (by omega) (fun z177 hz177 => ?_)
                refine h_iald (pc' := 531) (v := s0 0 (b3 + 3)) rfl rfl rfl hz177 (by omega) (by omega) (Zs172 _) (fun z178 hz178 => ?_)
                have tz178 := h_rgv hz178
                clear hz177
                refine h_call (sp := false) (pc' := 534) (M := [(0, .ref 98), (1, .int z174), (2, .int z176), (3, .int z178)]) rfl rfl rfl rfl rfl rfl rfl rfl ?_
                refine h_iload_n (pc' := 1) rfl rfl rfl ?_
                refine h_iconst (pc' := 2) (x := (Int32.ofInt 1)) rfl rfl rfl ?_
                refine h_cne (tg := 48) (pc' := 5) rfl rfl rfl hz176 ci_1 (fun c179 => absurd (Int.le_antisymm (by omega) (by omega)) c179) (fun c179 => ?_)
                refine h_aload_n (pc' := 6) rfl rfl rfl ?_
                refine h_aload_n (pc' := 7) rfl rfl rfl ?_
                refine h_iload_n (pc' := 8) rfl rfl rfl ?_
                refine h_call (sp := false) (pc' := 11) (M := [(0, .ref 98), (1, .int z174)]) rfl rfl rfl rfl rfl rfl rfl rfl ?_
                refine h_iload_n (pc' := 1) rfl rfl rfl ?_
                refine h_i2l (pc' := 2) rfl rfl hz174 (fun z180 hz180 => ?_)
                refine h_lconst (pc' := 3) (x := (Int64.ofInt 0)) rfl rfl rfl ?_
                refine h_aload_n (pc' := 4) rfl rfl rfl ?_
                refine h_getI (pc' := 7) (v := s0 98 1) rfl rfl rfl rfl rfl es172.2.2.2.2.2.2.2.1 (fun z181 hz181 => ?_)
                have tz181 := tf_98_1 I0
                refine h_iconst (pc' := 8) (x := (Int32.ofInt 1)) rfl rfl rfl ?_
                refine h_isub (pc' := 9) rfl rfl hz181 ci_1 rfl (by omega) (by omega) (fun z182 hz182 => ?_)
                clear hz181
                refine h_i2l (pc' := 10) rfl rfl hz182 (fun z183 hz183 => ?_)
                clear hz182
                refine h_calls (pc' := 13) (M := [(0, .long z180), (2, .long (Int64.ofInt 0)), (4, .long z183)]) rfl rfl rfl rfl rfl rfl ?_
                refine h_lload_n (pc' := 1) rfl rfl rfl ?_
                refine h_lload_n (pc' := 2) rfl rfl rfl ?_
                refine h_lcmp (pc' := 3) rfl rfl hz180 cl_0 (fun z184 hz184 => ?_)
                refine h_zlt (tg := 17) (pc' := 6) rfl rfl rfl rfl (fun c185 => absurd c185 (by omega)) (fun c185 => ?_)
                replace c185 := (h_lcr hz184).2.1 c185
                clear hz184
                refine h_lload_n (pc' := 7) rfl rfl rfl ?_
                refine h_lload (pc' := 9) rfl rfl rfl ?_
                refine h_lcmp (pc' := 10) rfl rfl hz180 hz183 (fun z186 hz186 => ?_)
                refine h_zgt (tg := 17) (pc' := 13) rfl rfl rfl rfl (fun c187 => absurd c187 (by omega)) (fun c187 => ?_)
                replace c187 := (h_lcr hz186).2.2.1 c187
                clear hz186
                refine h_iconst (pc' := 14) (x := (Int32.ofInt 1)) rfl rfl rfl ?_
                refine h_goto (pc' := 18) rfl rfl ?_
                refine h_zret rfl rfl ci_1 (by omega) (h_Kv ?_)
                clear hz180 hz183
                refine h_zret rfl rfl ci_1 (by omega) (h_Kv ?_)
                refine h_zeq (tg := 37) (pc' := 14) rfl rfl rfl ci_1 (fun c188 => absurd c188 (by omega)) (fun c188 => ?_)
                refine h_iload_n (pc' := 15) rfl rfl rfl ?_
                refine h_bipush (pc' := 17) (x := (Int32.ofInt (-4))) rfl rfl cb_m4 ?_
                refine h_ceq (tg := 33) (pc' := 20) rfl rfl rfl hz178 ci_m4 (fun c189 => absurd c189 (by omega)) (fun c189 => ?_)
                refine h_iload_n (pc' := 21) rfl rfl rfl ?_
                refine h_i2l (pc' := 22) rfl rfl hz178 (fun z190 hz190 => ?_)
                refine h_lconst (pc' := 23) (x := (Int64.ofInt 0)) rfl rfl rfl ?_
                refine h_iload_n (pc' := 24) rfl rfl rfl ?_
                refine h_iconst (pc' := 25) (x := (Int32.ofInt 1)) rfl rfl rfl ?_
                refine h_isub (pc' := 26) rfl rfl hz174 ci_1 rfl (by have g0 := h_rgv hz174; omega) (by have g0 := h_rgv hz174; omega) (fun z191 hz191 => ?_)
                refine h_i2l (pc' := 27) rfl rfl hz191 (fun z192 hz192 => ?_)
                clear hz191
                refine h_calls (pc' := 30) (M := [(0, .long z190), (2, .long (Int64.ofInt 0)), (4, .long z192)]) rfl rfl rfl rfl rfl rfl ?_
                refine h_lload_n (pc' := 1) rfl rfl rfl ?_
                refine h_lload_n (pc' := 2) rfl rfl rfl ?_
                refine h_lcmp (pc' := 3) rfl rfl hz190 cl_0 (fun z193 hz193 => ?_)
                refine h_zlt (tg := 17) (pc' := 6) rfl rfl rfl rfl (fun c194 => absurd c194 (by omega)) (fun c194 => ?_)
                replace c194 := (h_lcr hz193).2.1 c194
                clear hz193
                refine h_lload_n (pc' := 7) rfl rfl rfl ?_
                refine h_lload (pc' := 9) rfl rfl rfl ?_
                refine h_lcmp (pc' := 10) rfl rfl hz190 hz192 (fun z195 hz195 => ?_)
                refine h_zgt (tg := 17) (pc' := 13) rfl rfl rfl rfl (fun c196 => absurd c196 (by omega)) (fun c196 => ?_)
                replace c196 := (h_lcr hz195).2.2.1 c196
                clear hz195
                refine h_iconst (pc' := 14) (x := (Int32.ofInt 1)) rfl rfl rfl ?_
                refine h_goto (pc' := 18) rfl rfl ?_
                refine h_zret rfl rfl ci_1 (by omega) (h_Kv ?_)
                clear hz190 hz192
                refine h_zeq (tg := 37) (pc' := 33) rfl rfl rfl ci_1 (fun c197 => absurd c197 (by omega)) (fun c197 => ?_)
                refine h_iconst (pc' := 34) (x := (Int32.ofInt 1)) rfl rfl rfl ?_
                refine h_goto (pc' := 38) rfl rfl ?_
                refine h_bipush (pc' := 40) (x := (Int32.ofInt 6)) rfl rfl cb_6 ?_
                refine h_iload_n (pc' := 41) rfl rfl rfl ?_
                refine h_iadd (pc' := 42) rfl rfl ci_6 hz174 rfl (by have g0 := h_rgv hz174; omega) (by have g0 := h_rgv hz174; omega) (fun z198 hz198 => ?_)
                refine h_iload_n (pc' := 43) rfl rfl rfl ?_
                refine h_iconst (pc' := 44) (x := (Int32.ofInt 1)) rfl rfl rfl ?_
                refine h_call (sp := false) (pc' := 47) (M := [(0, .ref 98), (1, .int (Int32.ofInt 1)), (2, .int z198), (3, .int z178), (4, .int (Int32.ofInt 1))]) rfl rfl rfl rfl rfl rfl rfl rfl ?_
                refine h_iload_n (pc' := 1) rfl rfl rfl ?_
                refine h_zne (tg := 6) (pc' := 4) rfl rfl rfl ci_1 (fun c199 => ?_) (fun c199 => absurd c199 (by omega))
                refine h_iload (pc' := 8) rfl rfl rfl ?_
                refine h_zne (tg := 20) (pc' := 11) rfl rfl rfl ci_1 (fun c200 => ?_) (fun c200 => absurd c200 (by omega))
                refine h_aload_n (pc' := 21) rfl rfl rfl ?_
                refine h_getR (pc' := 24) rfl rfl rfl rfl rfl ?_
                refine h_iload_n (pc' := 25) rfl rfl rfl ?_
                refine h_iald (pc' := 26) (v := s172 99 (6 + (s0 0 (b3 + 1)))) rfl rfl rfl hz198 (by omega) (by omega) rfl (fun z201 hz201 => ?_)
                have tz201 := ty_99_1 Is172 (6 + (s0 0 (b3 + 1))) (by omega)
                refine h_calls (pc' := 29) (M := [(0, .int z201)]) rfl rfl rfl rfl rfl rfl ?_
                refine h_iload_n (pc' := 1) rfl rfl rfl ?_
                refine h_zne (tg := 9) (pc' := 4) rfl rfl rfl hz201 (fun c202 => ?_) (fun c202 => ?_)
                · refine h_iload_n (pc' := 10) rfl rfl rfl ?_
                  refine h_iconst (pc' := 11) (x := (Int32.ofInt 1)) rfl rfl rfl ?_
                  refine h_isub (pc' := 12) rfl rfl hz201 ci_1 rfl (by omega) (by omega) (fun z203 hz203 => ?_)
                  refine h_iret rfl rfl (h_Kv ?_)
                  clear hz201
                  refine h_istore (pc' := 31) (M := [(5, .int z203), (0, .ref 98), (1, .int (Int32.ofInt 1)), (2, .int z198), (3, .int z178), (4, .int (Int32.ofInt 1))]) rfl rfl rfl rfl ?_
                  refine h_aload_n (pc' := 32) rfl rfl rfl ?_
                  refine h_getR (pc' := 35) rfl rfl rfl rfl rfl ?_
                  refine h_iload_n (pc' := 36) rfl rfl rfl ?_
                  refine h_iload (pc' := 38) rfl rfl rfl ?_
                  refine h_zne (tg := 45) (pc' := 41) rfl rfl rfl ci_1 (fun c204 => ?_) (fun c204 => absurd c204 (by omega))
                  refine h_iload_n (pc' := 46) rfl rfl rfl ?_
                  refine h_bipush (pc' := 48) (x := (Int32.ofInt (-4))) rfl rfl cb_m4 ?_
                  refine h_cne (tg := 55) (pc' := 51) rfl rfl rfl hz178 ci_m4 (fun c205 => ?_) (fun c205 => absurd c205 (by omega))
                  refine h_iload_n (pc' := 56) rfl rfl rfl ?_
                  refine h_iconst (pc' := 57) (x := (Int32.ofInt 1)) rfl rfl rfl ?_
                  refine h_iadd (pc' := 58) rfl rfl hz178 ci_1 rfl (by have g0 := h_rgv hz178; omega) (by have g0 := h_rgv hz178; omega) (fun z206 hz206 => ?_)
                  refine h_iast (pc' := 59) rfl rfl rfl rfl hz198 (by omega) (by omega) hz206 (h_fgt (E := fun s => s 64 1 = s0 64 1 ∧ s 98 11 = s0 98 11 ∧ s 64 4 = s0 64 4 ∧ s 98 16 = s0 98 16 ∧ s 90 2 = s0 90 2 ∧ s 98 29 = s0 98 29 ∧ s 10 8 = s0 10 8 ∧ s 98 1 = s0 98 1 ∧ s = h_up s172 99 (6 + (s0 0 (b3 + 1))) ((s0 0 (b3 + 3)) + 1)) _ (ip_99_1 Is172 (by omega) (by omega)) (Fs172.up rfl) ⟨es172.1, es172.2.1, es172.2.2.1, es172.2.2.2.1, es172.2.2.2.2.1, es172.2.2.2.2.2.1, es172.2.2.2.2.2.2.1, es172.2.2.2.2.2.2.2.1, rfl⟩ (fun s207 Is207 Fs207 (es207 : s207 64 1 = s0 64 1 ∧ s207 98 11 = s0 98 11 ∧ s207 64 4 = s0 64 4 ∧ s207 98 16 = s0 98 16 ∧ s207 90 2 = s0 90 2 ∧ s207 98 29 = s0 98 29 ∧ s207 10 8 = s0 10 8 ∧ s207 98 1 = s0 98 1 ∧ s207 = h_up s172 99 (6 + (s0 0 (b3 + 1))) ((s0 0 (b3 + 3)) + 1)) => ?_))
                  clear es172
                  have us207 := es207.2.2.2.2.2.2.2.2
                  have Zs207 : ∀ i, s207 0 i = s0 0 i := fun i => (h_upo us207 rfl i).trans (Zs172 i)
                  clear hz206
                  refine h_iload (pc' := 61) rfl rfl rfl ?_
                  refine h_iret rfl rfl (h_Kv ?_)
                  clear hz198
                  refine h_iret rfl rfl (h_Kv ?_)
                  clear hz174 hz176 hz178
                  refine h_pop (pc' := 535) rfl rfl rfl ?_
                  clear hz203
                  refine h_goto (pc' := 1441) rfl rfl ?_
                  exact kk _ Is207 (by first | exact d_tape.le j0 (Int.le_antisymm (by omega) (by omega)) (by omega) (fun j => (h_upo us207 rfl j).trans ((h_upo us172 rfl j))) (fun j => (h_upo us207 rfl j).trans ((h_upo us172 rfl j))) | (exfalso; omega)) (Int.le_antisymm (by omega) (by omega)) (c_R.par j2 I0 (by omega) (by omega) (Int.le_antisymm (by omega) (by omega)) (by omega) (fun j => (h_upo us207 rfl j).trans ((h_upi us172 j)))  (fun j => (h_upi us207 j).trans (congrArg (fun z => if j = (6 + (s0 0 (b3 + 1))) then ((s0 0 (b3 + 3)) + 1) else z) ((h_upo us172 rfl j))))  (fun p j n0 n1 => (h_upq us207 n1 j).trans ((h_upq us172 n0 j)))) (g_ti.e j3 ((h_upg us207 rfl).trans (h_upg us172 rfl))) (g_SH.e j4 ((h_upg us207 rfl).trans (h_upg us172 rfl)) ((h_upg us207 rfl).trans (h_upg us172 rfl)) ((h_upg us207 rfl).trans (h_upg us172 rfl)) ((h_upg us207 rfl).trans (h_upg us172 rfl)) ((h_upg us207 rfl).trans (h_upg us172 rfl)) ((h_upg us207 rfl).trans (h_upg us172 rfl))) (Int.le_antisymm (by omega) (by omega))
                · refine h_bipush (pc' := 6) (x := (Int32.ofInt (-4))) rfl rfl cb_m4 ?_
                  refine h_goto (pc' := 12) rfl rfl ?_
                  refine h_iret rfl rfl (h_Kv ?_)
                  clear hz201
                  refine h_istore (pc' := 31) (M := [(5, .int (Int32.ofInt (-4))), (0, .ref 98), (1, .int (Int32.ofInt 1)), (2, .int z198), (3, .int z178), (4, .int (Int32.ofInt 1))]) rfl rfl rfl rfl ?_
                  refine h_aload_n (pc' := 32) rfl rfl rfl ?_
                  refine h_getR (pc' := 35) rfl rfl rfl rfl rfl ?_
                  refine h_iload_n (pc' := 36) rfl rfl rfl ?_
                  refine h_iload (pc' := 38) rfl rfl rfl ?_
                  refine h_zne (tg := 45) (pc' := 41) rfl rfl rfl ci_1 (fun c208 => ?_) (fun c208 => absurd c208 (by omega))
                  refine h_iload_n (pc' := 46) rfl rfl rfl ?_
                  refine h_bipush (pc' := 48) (x := (Int32.ofInt (-4))) rfl rfl cb_m4 ?_
                  refine h_cne (tg := 55) (pc' := 51) rfl rfl rfl hz178 ci_m4 (fun c209 => ?_) (fun c209 => absurd c209 (by omega))
                  refine h_iload_n (pc' := 56) rfl rfl rfl ?_
                  refine h_iconst (pc' := 57) (x := (Int32.ofInt 1)) rfl rfl rfl ?_
                  refine h_iadd (pc' := 58) rfl rfl hz178 ci_1 rfl (by have g0 := h_rgv hz178; omega) (by have g0 := h_rgv hz178; omega) (fun z210 hz210 => ?_)
                  refine h_iast (pc' := 59) rfl rfl rfl rfl hz198 (by omega) (by omega) hz210 (h_fgt (E := fun s => s 64 1 = s0 64 1 ∧ s 98 11 = s0 98 11 ∧ s 64 4 = s0 64 4 ∧ s 98 16 = s0 98 16 ∧ s 90 2 = s0 90 2 ∧ s 98 29 = s0 98 29 ∧ s 10 8 = s0 10 8 ∧ s 98 1 = s0 98 1 ∧ s = h_up s172 99 (6 + (s0 0 (b3 + 1))) ((s0 0 (b3 + 3)) + 1)) _ (ip_99_1 Is172 (by omega) (by omega)) (Fs172.up rfl) ⟨es172.1, es172.2.1, es172.2.2.1, es172.2.2.2.1, es172.2.2.2.2.1, es172.2.2.2.2.2.1, es172.2.2.2.2.2.2.1, es172.2.2.2.2.2.2.2.1, rfl⟩ (fun s211 Is211 Fs211 (es211 : s211 64 1 = s0 64 1 ∧ s211 98 11 = s0 98 11 ∧ s211 64 4 = s0 64 4 ∧ s211 98 16 = s0 98 16 ∧ s211 90 2 = s0 90 2 ∧ s211 98 29 = s0 98 29 ∧ s211 10 8 = s0 10 8 ∧ s211 98 1 = s0 98 1 ∧ s211 = h_up s172 99 (6 + (s0 0 (b3 + 1))) ((s0 0 (b3 + 3)) + 1)) => ?_))
                  clear es172
                  have us211 := es211.2.2.2.2.2.2.2.2
                  have Zs211 : ∀ i, s211 0 i = s0 0 i := fun i => (h_upo us211 rfl i).trans (Zs172 i)
                  clear hz210
                  refine h_iload (pc' := 61) rfl rfl rfl ?_
                  refine h_iret rfl rfl (h_Kv ?_)
                  clear hz198
                  refine h_iret rfl rfl (h_Kv ?_)
                  clear hz174 hz176 hz178
                  refine h_pop (pc' := 535) rfl rfl rfl ?_
                  refine h_goto (pc' := 1441) rfl rfl ?_
                  exact kk _ Is211 (by first | exact d_tape.le j0 (Int.le_antisymm (by omega) (by omega)) (by omega) (fun j => (h_upo us211 rfl j).trans ((h_upo us172 rfl j))) (fun j => (h_upo us211 rfl j).trans ((h_upo us172 rfl j))) | (exfalso; omega)) (Int.le_antisymm (by omega) (by omega)) (c_R.par j2 I0 (by omega) (by omega) (Int.le_antisymm (by omega) (by omega)) (by omega) (fun j => (h_upo us211 rfl j).trans ((h_upi us172 j)))  (fun j => (h_upi us211 j).trans (congrArg (fun z => if j = (6 + (s0 0 (b3 + 1))) then ((s0 0 (b3 + 3)) + 1) else z) ((h_upo us172 rfl j))))  (fun p j n0 n1 => (h_upq us211 n1 j).trans ((h_upq us172 n0 j)))) (g_ti.e j3 ((h_upg us211 rfl).trans (h_upg us172 rfl))) (g_SH.e j4 ((h_upg us211 rfl).trans (h_upg us172 rfl)) ((h_upg us211 rfl).trans (h_upg us172 rfl)) ((h_upg us211 rfl).trans (h_upg us172 rfl)) ((h_upg us211 rfl).trans (h_upg us172 rfl)) ((h_upg us211 rfl).trans (h_upg us172 rfl)) ((h_upg us211 rfl).trans (h_upg us172 rfl))) (Int.le_antisymm (by omega) (by omega))
      · refine h_iload_n (pc' := 18) rfl rfl rfl ?_
        refine h_zlt (tg := 50) (pc' := 21) rfl rfl rfl hz6 (fun c212 => ?_) (fun c212 => ?_)
        · refine h_iload_n (pc' := 51) rfl rfl rfl ?_
          refine h_iconst (pc' := 52) (x := (Int32.ofInt 1)) rfl rfl rfl ?_
          refine h_cne (tg := 94) (pc' := 55) rfl rfl rfl hz4 ci_1 (fun c213 => ?_) (fun c213 => absurd c213 (by omega))
          refine h_iconst (pc' := 95) (x := (Int32.ofInt (-1))) rfl rfl rfl ?_
          refine h_iret rfl rfl (h_Kv ?_)
          clear hz2 hz4 hz6
          refine h_pop (pc' := 515) rfl rfl rfl ?_
          refine h_aload_n (pc' := 516) rfl rfl rfl ?_
          refine h_aload_n (pc' := 517) rfl rfl rfl ?_
          refine h_iload_n (pc' := 518) rfl rfl rfl ?_
          refine h_iconst (pc' := 519) (x := (Int32.ofInt 1)) rfl rfl rfl ?_
          refine h_iadd (pc' := 520) rfl rfl hy3 ci_1 rfl (by omega) (by omega) (fun z214 hz214 => ?_)
          refine h_iald (pc' := 521) (v := s0 0 (b3 + 1)) rfl rfl rfl hz214 (by omega) (by omega) rfl (fun z215 hz215 => ?_)
          have tz215 := h_rgv hz215
          clear hz214
          refine h_aload_n (pc' := 522) rfl rfl rfl ?_
          refine h_iload_n (pc' := 523) rfl rfl rfl ?_
          refine h_iconst (pc' := 524) (x := (Int32.ofInt 2)) rfl rfl rfl ?_
          refine h_iadd (pc' := 525) rfl rfl hy3 ci_2 rfl (by omega) (by omega) (fun z216 hz216 => ?_)
          refine h_iald (pc' := 526) (v := s0 0 (b3 + 2)) rfl rfl rfl hz216 (by omega) (by omega) rfl (fun z217 hz217 => ?_)
          have tz217 := h_rgv hz217
          clear hz216
          refine h_aload_n (pc' := 527) rfl rfl rfl ?_
          refine h_iload_n (pc' := 528) rfl rfl rfl ?_
          refine h_iconst (pc' := 529) (x := (Int32.ofInt 3)) rfl rfl rfl ?_
          refine h_iadd (pc' := 530) rfl rfl hy3 ci_3 rfl (by omega) (by omega) (fun z218 hz218 => ?_)
          refine h_iald (pc' := 531) (v := s0 0 (b3 + 3)) rfl rfl rfl hz218 (by omega) (by omega) rfl (fun z219 hz219 => ?_)
          have tz219 := h_rgv hz219
          clear hz218
          refine h_call (sp := false) (pc' := 534) (M := [(0, .ref 98), (1, .int z215), (2, .int z217), (3, .int z219)]) rfl rfl rfl rfl rfl rfl rfl rfl ?_
          refine h_iload_n (pc' := 1) rfl rfl rfl ?_
          refine h_iconst (pc' := 2) (x := (Int32.ofInt 1)) rfl rfl rfl ?_
          refine h_cne (tg := 48) (pc' := 5) rfl rfl rfl hz217 ci_1 (fun c220 => ?_) (fun c220 => absurd c220 (by omega))
          refine h_aload_n (pc' := 49) rfl rfl rfl ?_
          refine h_aload_n (pc' := 50) rfl rfl rfl ?_
          refine h_iload_n (pc' := 51) rfl rfl rfl ?_
          refine h_call (sp := false) (pc' := 54) (M := [(0, .ref 98), (1, .int z215)]) rfl rfl rfl rfl rfl rfl rfl rfl ?_
          refine h_iload_n (pc' := 1) rfl rfl rfl ?_
          refine h_i2l (pc' := 2) rfl rfl hz215 (fun z221 hz221 => ?_)
          refine h_lconst (pc' := 3) (x := (Int64.ofInt 0)) rfl rfl rfl ?_
          refine h_aload_n (pc' := 4) rfl rfl rfl ?_
          refine h_getI (pc' := 7) (v := s0 98 1) rfl rfl rfl rfl rfl rfl (fun z222 hz222 => ?_)
          have tz222 := tf_98_1 I0
          refine h_iconst (pc' := 8) (x := (Int32.ofInt 1)) rfl rfl rfl ?_
          refine h_isub (pc' := 9) rfl rfl hz222 ci_1 rfl (by omega) (by omega) (fun z223 hz223 => ?_)
          clear hz222
          refine h_i2l (pc' := 10) rfl rfl hz223 (fun z224 hz224 => ?_)
          clear hz223
          refine h_calls (pc' := 13) (M := [(0, .long z221), (2, .long (Int64.ofInt 0)), (4, .long z224)]) rfl rfl rfl rfl rfl rfl ?_
          refine h_lload_n (pc' := 1) rfl rfl rfl ?_
          refine h_lload_n (pc' := 2) rfl rfl rfl ?_
          refine h_lcmp (pc' := 3) rfl rfl hz221 cl_0 (fun z225 hz225 => ?_)
          refine h_zlt (tg := 17) (pc' := 6) rfl rfl rfl rfl (fun c226 => absurd c226 (by omega)) (fun c226 => ?_)
          replace c226 := (h_lcr hz225).2.1 c226
          clear hz225
          refine h_lload_n (pc' := 7) rfl rfl rfl ?_
          refine h_lload (pc' := 9) rfl rfl rfl ?_
          refine h_lcmp (pc' := 10) rfl rfl hz221 hz224 (fun z227 hz227 => ?_)
          refine h_zgt (tg := 17) (pc' := 13) rfl rfl rfl rfl (fun c228 => absurd c228 (by omega)) (fun c228 => ?_)
          replace c228 := (h_lcr hz227).2.2.1 c228
          clear hz227
          refine h_iconst (pc' := 14) (x := (Int32.ofInt 1)) rfl rfl rfl ?_
          refine h_goto (pc' := 18) rfl rfl ?_
          refine h_zret rfl rfl ci_1 (by omega) (h_Kv ?_)
          clear hz221 hz224
          refine h_zret rfl rfl ci_1 (by omega) (h_Kv ?_)
          refine h_zeq (tg := 77) (pc' := 57) rfl rfl rfl ci_1 (fun c229 => absurd c229 (by omega)) (fun c229 => ?_)
          refine h_iload_n (pc' := 58) rfl rfl rfl ?_
          refine h_zne (tg := 77) (pc' := 61) rfl rfl rfl hz217 (fun c230 => absurd (Int.le_antisymm (by omega) (by omega)) c230) (fun c230 => ?_)
          refine h_iload_n (pc' := 62) rfl rfl rfl ?_
          refine h_i2l (pc' := 63) rfl rfl hz219 (fun z231 hz231 => ?_)
          refine h_lconst (pc' := 64) (x := (Int64.ofInt 0)) rfl rfl rfl ?_
          refine h_ldc2 (pc' := 67) (x := (Int64.ofInt 3)) rfl rfl rfl ?_
          refine h_calls (pc' := 70) (M := [(0, .long z231), (2, .long (Int64.ofInt 0)), (4, .long (Int64.ofInt 3))]) rfl rfl rfl rfl rfl rfl ?_
          refine h_lload_n (pc' := 1) rfl rfl rfl ?_
          refine h_lload_n (pc' := 2) rfl rfl rfl ?_
          refine h_lcmp (pc' := 3) rfl rfl hz231 cl_0 (fun z232 hz232 => ?_)
          refine h_zlt (tg := 17) (pc' := 6) rfl rfl rfl rfl (fun c233 => ?_) (fun c233 => absurd c233 (by omega))
          replace c233 := (h_lcr hz232).1 c233
          clear hz232
          refine h_iconst (pc' := 18) (x := (Int32.ofInt 0)) rfl rfl rfl ?_
          refine h_zret rfl rfl ci_0 (by omega) (h_Kv ?_)
          clear hz231
          refine h_zeq (tg := 77) (pc' := 73) rfl rfl rfl ci_0 (fun c234 => ?_) (fun c234 => absurd (Int.le_antisymm (by omega) (by omega)) c234)
          refine h_iconst (pc' := 78) (x := (Int32.ofInt 0)) rfl rfl rfl ?_
          refine h_iload_n (pc' := 79) rfl rfl rfl ?_
          refine h_iload_n (pc' := 80) rfl rfl rfl ?_
          refine h_iconst (pc' := 81) (x := (Int32.ofInt 0)) rfl rfl rfl ?_
          refine h_call (sp := false) (pc' := 84) (M := [(0, .ref 98), (1, .int (Int32.ofInt 0)), (2, .int z215), (3, .int z219), (4, .int (Int32.ofInt 0))]) rfl rfl rfl rfl rfl rfl rfl rfl ?_
          refine h_iload_n (pc' := 1) rfl rfl rfl ?_
          refine h_zne (tg := 6) (pc' := 4) rfl rfl rfl ci_0 (fun c235 => absurd (Int.le_antisymm (by omega) (by omega)) c235) (fun c235 => ?_)
          refine h_iconst (pc' := 5) (x := (Int32.ofInt (-1))) rfl rfl rfl ?_
          refine h_iret rfl rfl (h_Kv ?_)
          refine h_iret rfl rfl (h_Kv ?_)
          clear hz215 hz217 hz219
          refine h_pop (pc' := 535) rfl rfl rfl ?_
          refine h_goto (pc' := 1441) rfl rfl ?_
          exact kk _ I0 (by first | exact d_tape.le j0 (Int.le_antisymm (by omega) (by omega)) (by omega) (fun j => rfl) (fun j => rfl) | (exfalso; omega)) (Int.le_antisymm (by omega) (by omega)) j2 (g_ti.e j3 rfl) (g_SH.e j4 rfl rfl rfl rfl rfl rfl) (Int.le_antisymm (by omega) (by omega))
        · refine h_iload_n (pc' := 22) rfl rfl rfl ?_
          refine h_iconst (pc' := 23) (x := (Int32.ofInt 4)) rfl rfl rfl ?_
          refine h_cge (tg := 50) (pc' := 26) rfl rfl rfl hz6 ci_4 (fun c236 => ?_) (fun c236 => ?_)
          · refine h_iload_n (pc' := 51) rfl rfl rfl ?_
            refine h_iconst (pc' := 52) (x := (Int32.ofInt 1)) rfl rfl rfl ?_
            refine h_cne (tg := 94) (pc' := 55) rfl rfl rfl hz4 ci_1 (fun c237 => ?_) (fun c237 => absurd c237 (by omega))
            refine h_iconst (pc' := 95) (x := (Int32.ofInt (-1))) rfl rfl rfl ?_
            refine h_iret rfl rfl (h_Kv ?_)
            clear hz2 hz4 hz6
            refine h_pop (pc' := 515) rfl rfl rfl ?_
            refine h_aload_n (pc' := 516) rfl rfl rfl ?_
            refine h_aload_n (pc' := 517) rfl rfl rfl ?_
            refine h_iload_n (pc' := 518) rfl rfl rfl ?_
            refine h_iconst (pc' := 519) (x := (Int32.ofInt 1)) rfl rfl rfl ?_
            refine h_iadd (pc' := 520) rfl rfl hy3 ci_1 rfl (by omega) (by omega) (fun z238 hz238 => ?_)
            refine h_iald (pc' := 521) (v := s0 0 (b3 + 1)) rfl rfl rfl hz238 (by omega) (by omega) rfl (fun z239 hz239 => ?_)
            have tz239 := h_rgv hz239
            clear hz238
            refine h_aload_n (pc' := 522) rfl rfl rfl ?_
            refine h_iload_n (pc' := 523) rfl rfl rfl ?_
            refine h_iconst (pc' := 524) (x := (Int32.ofInt 2)) rfl rfl rfl ?_
            refine h_iadd (pc' := 525) rfl rfl hy3 ci_2 rfl (by omega) (by omega) (fun z240 hz240 => ?_)
            refine h_iald (pc' := 526) (v := s0 0 (b3 + 2)) rfl rfl rfl hz240 (by omega) (by omega) rfl (fun z241 hz241 => ?_)
            have tz241 := h_rgv hz241
            clear hz240
            refine h_aload_n (pc' := 527) rfl rfl rfl ?_
            refine h_iload_n (pc' := 528) rfl rfl rfl ?_
            refine h_iconst (pc' := 529) (x := (Int32.ofInt 3)) rfl rfl rfl ?_
            refine h_iadd (pc' := 530) rfl rfl hy3 ci_3 rfl (by omega) (by omega) (fun z242 hz242 => ?_)
            refine h_iald (pc' := 531) (v := s0 0 (b3 + 3)) rfl rfl rfl hz242 (by omega) (by omega) rfl (fun z243 hz243 => ?_)
            have tz243 := h_rgv hz243
            clear hz242
            refine h_call (sp := false) (pc' := 534) (M := [(0, .ref 98), (1, .int z239), (2, .int z241), (3, .int z243)]) rfl rfl rfl rfl rfl rfl rfl rfl ?_
            refine h_iload_n (pc' := 1) rfl rfl rfl ?_
            refine h_iconst (pc' := 2) (x := (Int32.ofInt 1)) rfl rfl rfl ?_
            refine h_cne (tg := 48) (pc' := 5) rfl rfl rfl hz241 ci_1 (fun c244 => ?_) (fun c244 => absurd c244 (by omega))
            refine h_aload_n (pc' := 49) rfl rfl rfl ?_
            refine h_aload_n (pc' := 50) rfl rfl rfl ?_
            refine h_iload_n (pc' := 51) rfl rfl rfl ?_
            refine h_call (sp := false) (pc' := 54) (M := [(0, .ref 98), (1, .int z239)]) rfl rfl rfl rfl rfl rfl rfl rfl ?_
            refine h_iload_n (pc' := 1) rfl rfl rfl ?_
            refine h_i2l (pc' := 2) rfl rfl hz239 (fun z245 hz245 => ?_)
            refine h_lconst (pc' := 3) (x := (Int64.ofInt 0)) rfl rfl rfl ?_
            refine h_aload_n (pc' := 4) rfl rfl rfl ?_
            refine h_getI (pc' := 7) (v := s0 98 1) rfl rfl rfl rfl rfl rfl (fun z246 hz246 => ?_)
            have tz246 := tf_98_1 I0
            refine h_iconst (pc' := 8) (x := (Int32.ofInt 1)) rfl rfl rfl ?_
            refine h_isub (pc' := 9) rfl rfl hz246 ci_1 rfl (by omega) (by omega) (fun z247 hz247 => ?_)
            clear hz246
            refine h_i2l (pc' := 10) rfl rfl hz247 (fun z248 hz248 => ?_)
            clear hz247
            refine h_calls (pc' := 13) (M := [(0, .long z245), (2, .long (Int64.ofInt 0)), (4, .long z248)]) rfl rfl rfl rfl rfl rfl ?_
            refine h_lload_n (pc' := 1) rfl rfl rfl ?_
            refine h_lload_n (pc' := 2) rfl rfl rfl ?_
            refine h_lcmp (pc' := 3) rfl rfl hz245 cl_0 (fun z249 hz249 => ?_)
            refine h_zlt (tg := 17) (pc' := 6) rfl rfl rfl rfl (fun c250 => absurd c250 (by omega)) (fun c250 => ?_)
            replace c250 := (h_lcr hz249).2.1 c250
            clear hz249
            refine h_lload_n (pc' := 7) rfl rfl rfl ?_
            refine h_lload (pc' := 9) rfl rfl rfl ?_
            refine h_lcmp (pc' := 10) rfl rfl hz245 hz248 (fun z251 hz251 => ?_)
            refine h_zgt (tg := 17) (pc' := 13) rfl rfl rfl rfl (fun c252 => absurd c252 (by omega)) (fun c252 => ?_)
            replace c252 := (h_lcr hz251).2.2.1 c252
            clear hz251
            refine h_iconst (pc' := 14) (x := (Int32.ofInt 1)) rfl rfl rfl ?_
            refine h_goto (pc' := 18) rfl rfl ?_
            refine h_zret rfl rfl ci_1 (by omega) (h_Kv ?_)
            clear hz245 hz248
            refine h_zret rfl rfl ci_1 (by omega) (h_Kv ?_)
            refine h_zeq (tg := 77) (pc' := 57) rfl rfl rfl ci_1 (fun c253 => absurd c253 (by omega)) (fun c253 => ?_)
            refine h_iload_n (pc' := 58) rfl rfl rfl ?_
            refine h_zne (tg := 77) (pc' := 61) rfl rfl rfl hz241 (fun c254 => absurd (Int.le_antisymm (by omega) (by omega)) c254) (fun c254 => ?_)
            refine h_iload_n (pc' := 62) rfl rfl rfl ?_
            refine h_i2l (pc' := 63) rfl rfl hz243 (fun z255 hz255 => ?_)
            refine h_lconst (pc' := 64) (x := (Int64.ofInt 0)) rfl rfl rfl ?_
            refine h_ldc2 (pc' := 67) (x := (Int64.ofInt 3)) rfl rfl rfl ?_
            refine h_calls (pc' := 70) (M := [(0, .long z255), (2, .long (Int64.ofInt 0)), (4, .long (Int64.ofInt 3))]) rfl rfl rfl rfl rfl rfl ?_
            refine h_lload_n (pc' := 1) rfl rfl rfl ?_
            refine h_lload_n (pc' := 2) rfl rfl rfl ?_
            refine h_lcmp (pc' := 3) rfl rfl hz255 cl_0 (fun z256 hz256 => ?_)
            refine h_zlt (tg := 17) (pc' := 6) rfl rfl rfl rfl (fun c257 => absurd c257 (by omega)) (fun c257 => ?_)
            replace c257 := (h_lcr hz256).2.1 c257
            clear hz256
            refine h_lload_n (pc' := 7) rfl rfl rfl ?_
            refine h_lload (pc' := 9) rfl rfl rfl ?_
            refine h_lcmp (pc' := 10) rfl rfl hz255 cl_3 (fun z258 hz258 => ?_)
            refine h_zgt (tg := 17) (pc' := 13) rfl rfl rfl rfl (fun c259 => ?_) (fun c259 => absurd c259 (by omega))
            replace c259 := (h_lcr hz258).2.2.2.1 c259
            clear hz258
            refine h_iconst (pc' := 18) (x := (Int32.ofInt 0)) rfl rfl rfl ?_
            refine h_zret rfl rfl ci_0 (by omega) (h_Kv ?_)
            clear hz255
            refine h_zeq (tg := 77) (pc' := 73) rfl rfl rfl ci_0 (fun c260 => ?_) (fun c260 => absurd (Int.le_antisymm (by omega) (by omega)) c260)
            refine h_iconst (pc' := 78) (x := (Int32.ofInt 0)) rfl rfl rfl ?_
            refine h_iload_n (pc' := 79) rfl rfl rfl ?_
            refine h_iload_n (pc' := 80) rfl rfl rfl ?_
            refine h_iconst (pc' := 81) (x := (Int32.ofInt 0)) rfl rfl rfl ?_
            refine h_call (sp := false) (pc' := 84) (M := [(0, .ref 98), (1, .int (Int32.ofInt 0)), (2, .int z239), (3, .int z243), (4, .int (Int32.ofInt 0))]) rfl rfl rfl rfl rfl rfl rfl rfl ?_
            refine h_iload_n (pc' := 1) rfl rfl rfl ?_
            refine h_zne (tg := 6) (pc' := 4) rfl rfl rfl ci_0 (fun c261 => absurd (Int.le_antisymm (by omega) (by omega)) c261) (fun c261 => ?_)
            refine h_iconst (pc' := 5) (x := (Int32.ofInt (-1))) rfl rfl rfl ?_
            refine h_iret rfl rfl (h_Kv ?_)
            refine h_iret rfl rfl (h_Kv ?_)
            clear hz239 hz241 hz243
            refine h_pop (pc' := 535) rfl rfl rfl ?_
            refine h_goto (pc' := 1441) rfl rfl ?_
            exact kk _ I0 (by first | exact d_tape.le j0 (Int.le_antisymm (by omega) (by omega)) (by omega) (fun j => rfl) (fun j => rfl) | (exfalso; omega)) (Int.le_antisymm (by omega) (by omega)) j2 (g_ti.e j3 rfl) (g_SH.e j4 rfl rfl rfl rfl rfl rfl) (Int.le_antisymm (by omega) (by omega))
          · refine h_aload_n (pc' := 27) rfl rfl rfl ?_
            refine h_getR (pc' := 30) rfl rfl rfl rfl rfl ?_
            refine h_getR (pc' := 33) rfl rfl rfl rfl rfl ?_
            refine h_iload_n (pc' := 34) rfl rfl rfl ?_
            refine h_iald (pc' := 35) (v := s0 11 (s0 0 (b3 + 1))) rfl rfl rfl hz2 (by omega) (by omega) rfl (fun z262 hz262 => ?_)
            have tz262 := ty_11 I0 (s0 0 (b3 + 1))
            refine h_istore (pc' := 37) (M := [(4, .int z262), (0, .ref 9), (1, .int z2), (2, .int z4), (3, .int z6)]) rfl rfl rfl rfl ?_
            refine h_aload_n (pc' := 38) rfl rfl rfl ?_
            refine h_getR (pc' := 41) rfl rfl rfl rfl rfl ?_
            refine h_getR (pc' := 44) rfl rfl rfl rfl rfl ?_
            refine h_iload_n (pc' := 45) rfl rfl rfl ?_
            refine h_iload_n (pc' := 46) rfl rfl rfl ?_
            refine h_iast (pc' := 47) rfl rfl rfl rfl hz2 (by omega) (by omega) hz6 (h_fgt (E := fun s => s 64 1 = s0 64 1 ∧ s 98 11 = s0 98 11 ∧ s 64 4 = s0 64 4 ∧ s 98 16 = s0 98 16 ∧ s 90 2 = s0 90 2 ∧ s 98 29 = s0 98 29 ∧ s 10 8 = s0 10 8 ∧ s 98 1 = s0 98 1 ∧ s = h_up s0 11 (s0 0 (b3 + 1)) (s0 0 (b3 + 3))) _ (in_11 I0 (by omega)) (F0_.up rfl) ⟨rfl, rfl, rfl, rfl, rfl, rfl, rfl, rfl, rfl⟩ (fun s263 Is263 Fs263 (es263 : s263 64 1 = s0 64 1 ∧ s263 98 11 = s0 98 11 ∧ s263 64 4 = s0 64 4 ∧ s263 98 16 = s0 98 16 ∧ s263 90 2 = s0 90 2 ∧ s263 98 29 = s0 98 29 ∧ s263 10 8 = s0 10 8 ∧ s263 98 1 = s0 98 1 ∧ s263 = h_up s0 11 (s0 0 (b3 + 1)) (s0 0 (b3 + 3))) => ?_))
            have us263 := es263.2.2.2.2.2.2.2.2
            have Zs263 : ∀ i, s263 0 i = s0 0 i := fun i => (h_upo us263 rfl i).trans rfl
            refine h_iload (pc' := 49) rfl rfl rfl ?_
            refine h_iret rfl rfl (h_Kv ?_)
            clear hz2 hz4 hz6
            refine h_pop (pc' := 515) rfl rfl rfl ?_
            clear hz262
            refine h_aload_n (pc' := 516) rfl rfl rfl ?_
            refine h_aload_n (pc' := 517) rfl rfl rfl ?_
            refine h_iload_n (pc' := 518) rfl rfl rfl ?_
            refine h_iconst (pc' := 519) (x := (Int32.ofInt 1)) rfl rfl rfl ?_
            refine h_iadd (pc' := 520) rfl rfl hy3 ci_1 rfl (by omega) (by omega) (fun z264 hz264 => ?_)
            refine h_iald (pc' := 521) (v := s0 0 (b3 + 1)) rfl rfl rfl hz264 (by omega) (by omega) (Zs263 _) (fun z265 hz265 => ?_)
            have tz265 := h_rgv hz265
            clear hz264
            refine h_aload_n (pc' := 522) rfl rfl rfl ?_
            refine h_iload_n (pc' := 523) rfl rfl rfl ?_
            refine h_iconst (pc' := 524) (x := (Int32.ofInt 2)) rfl rfl rfl ?_
            refine h_iadd (pc' := 525) rfl rfl hy3 ci_2 rfl (by omega) (by omega) (fun z266 hz266 => ?_)
            refine h_iald (pc' := 526) (v := s0 0 (b3 + 2)) rfl rfl rfl hz266 (by omega) (by omega) (Zs263 _) (fun z267 hz267 => ?_)
            have tz267 := h_rgv hz267
            clear hz266
            refine h_aload_n (pc' := 527) rfl rfl rfl ?_
            refine h_iload_n (pc' := 528) rfl rfl rfl ?_
            refine h_iconst (pc' := 529) (x := (Int32.ofInt 3)) rfl rfl rfl ?_
            refine h_iadd (pc' := 530) rfl rfl hy3 ci_3 rfl (by omega) (by omega) (fun z268 hz268 => ?_)
            refine h_iald (pc' := 531) (v := s0 0 (b3 + 3)) rfl rfl rfl hz268 (by omega) (by omega) (Zs263 _) (fun z269 hz269 => ?_)
            have tz269 := h_rgv hz269
            clear hz268
            refine h_call (sp := false) (pc' := 534) (M := [(0, .ref 98), (1, .int z265), (2, .int z267), (3, .int z269)]) rfl rfl rfl rfl rfl rfl rfl rfl ?_
            refine h_iload_n (pc' := 1) rfl rfl rfl ?_
            refine h_iconst (pc' := 2) (x := (Int32.ofInt 1)) rfl rfl rfl ?_
            refine h_cne (tg := 48) (pc' := 5) rfl rfl rfl hz267 ci_1 (fun c270 => ?_) (fun c270 => absurd c270 (by omega))
            refine h_aload_n (pc' := 49) rfl rfl rfl ?_
            refine h_aload_n (pc' := 50) rfl rfl rfl ?_
            refine h_iload_n (pc' := 51) rfl rfl rfl ?_
            refine h_call (sp := false) (pc' := 54) (M := [(0, .ref 98), (1, .int z265)]) rfl rfl rfl rfl rfl rfl rfl rfl ?_
            refine h_iload_n (pc' := 1) rfl rfl rfl ?_
            refine h_i2l (pc' := 2) rfl rfl hz265 (fun z271 hz271 => ?_)
            refine h_lconst (pc' := 3) (x := (Int64.ofInt 0)) rfl rfl rfl ?_
            refine h_aload_n (pc' := 4) rfl rfl rfl ?_
            refine h_getI (pc' := 7) (v := s0 98 1) rfl rfl rfl rfl rfl es263.2.2.2.2.2.2.2.1 (fun z272 hz272 => ?_)
            have tz272 := tf_98_1 I0
            refine h_iconst (pc' := 8) (x := (Int32.ofInt 1)) rfl rfl rfl ?_
            refine h_isub (pc' := 9) rfl rfl hz272 ci_1 rfl (by omega) (by omega) (fun z273 hz273 => ?_)
            clear hz272
            refine h_i2l (pc' := 10) rfl rfl hz273 (fun z274 hz274 => ?_)
            clear hz273
            refine h_calls (pc' := 13) (M := [(0, .long z271), (2, .long (Int64.ofInt 0)), (4, .long z274)]) rfl rfl rfl rfl rfl rfl ?_
            refine h_lload_n (pc' := 1) rfl rfl rfl ?_
            refine h_lload_n (pc' := 2) rfl rfl rfl ?_
            refine h_lcmp (pc' := 3) rfl rfl hz271 cl_0 (fun z275 hz275 => ?_)
            refine h_zlt (tg := 17) (pc' := 6) rfl rfl rfl rfl (fun c276 => absurd c276 (by omega)) (fun c276 => ?_)
            replace c276 := (h_lcr hz275).2.1 c276
            clear hz275
            refine h_lload_n (pc' := 7) rfl rfl rfl ?_
            refine h_lload (pc' := 9) rfl rfl rfl ?_
            refine h_lcmp (pc' := 10) rfl rfl hz271 hz274 (fun z277 hz277 => ?_)
            refine h_zgt (tg := 17) (pc' := 13) rfl rfl rfl rfl (fun c278 => absurd c278 (by omega)) (fun c278 => ?_)
            replace c278 := (h_lcr hz277).2.2.1 c278
            clear hz277
            refine h_iconst (pc' := 14) (x := (Int32.ofInt 1)) rfl rfl rfl ?_
            refine h_goto (pc' := 18) rfl rfl ?_
            refine h_zret rfl rfl ci_1 (by omega) (h_Kv ?_)
            clear hz271 hz274
            refine h_zret rfl rfl ci_1 (by omega) (h_Kv ?_)
            refine h_zeq (tg := 77) (pc' := 57) rfl rfl rfl ci_1 (fun c279 => absurd c279 (by omega)) (fun c279 => ?_)
            refine h_iload_n (pc' := 58) rfl rfl rfl ?_
            refine h_zne (tg := 77) (pc' := 61) rfl rfl rfl hz267 (fun c280 => absurd (Int.le_antisymm (by omega) (by omega)) c280) (fun c280 => ?_)
            refine h_iload_n (pc' := 62) rfl rfl rfl ?_
            refine h_i2l (pc' := 63) rfl rfl hz269 (fun z281 hz281 => ?_)
            refine h_lconst (pc' := 64) (x := (Int64.ofInt 0)) rfl rfl rfl ?_
            refine h_ldc2 (pc' := 67) (x := (Int64.ofInt 3)) rfl rfl rfl ?_
            refine h_calls (pc' := 70) (M := [(0, .long z281), (2, .long (Int64.ofInt 0)), (4, .long (Int64.ofInt 3))]) rfl rfl rfl rfl rfl rfl ?_
            refine h_lload_n (pc' := 1) rfl rfl rfl ?_
            refine h_lload_n (pc' := 2) rfl rfl rfl ?_
            refine h_lcmp (pc' := 3) rfl rfl hz281 cl_0 (fun z282 hz282 => ?_)
            refine h_zlt (tg := 17) (pc' := 6) rfl rfl rfl rfl (fun c283 => absurd c283 (by omega)) (fun c283 => ?_)
            replace c283 := (h_lcr hz282).2.1 c283
            clear hz282
            refine h_lload_n (pc' := 7) rfl rfl rfl ?_
            refine h_lload (pc' := 9) rfl rfl rfl ?_
            refine h_lcmp (pc' := 10) rfl rfl hz281 cl_3 (fun z284 hz284 => ?_)
            refine h_zgt (tg := 17) (pc' := 13) rfl rfl rfl rfl (fun c285 => absurd c285 (by omega)) (fun c285 => ?_)
            replace c285 := (h_lcr hz284).2.2.1 c285
            clear hz284
            refine h_iconst (pc' := 14) (x := (Int32.ofInt 1)) rfl rfl rfl ?_
            refine h_goto (pc' := 18) rfl rfl ?_
            refine h_zret rfl rfl ci_1 (by omega) (h_Kv ?_)
            clear hz281
            refine h_zeq (tg := 77) (pc' := 73) rfl rfl rfl ci_1 (fun c286 => absurd c286 (by omega)) (fun c286 => ?_)
            refine h_iconst (pc' := 74) (x := (Int32.ofInt 1)) rfl rfl rfl ?_
            refine h_goto (pc' := 78) rfl rfl ?_
            refine h_iload_n (pc' := 79) rfl rfl rfl ?_
            refine h_iload_n (pc' := 80) rfl rfl rfl ?_
            refine h_iconst (pc' := 81) (x := (Int32.ofInt 0)) rfl rfl rfl ?_
            refine h_call (sp := false) (pc' := 84) (M := [(0, .ref 98), (1, .int (Int32.ofInt 1)), (2, .int z265), (3, .int z269), (4, .int (Int32.ofInt 0))]) rfl rfl rfl rfl rfl rfl rfl rfl ?_
            refine h_iload_n (pc' := 1) rfl rfl rfl ?_
            refine h_zne (tg := 6) (pc' := 4) rfl rfl rfl ci_1 (fun c287 => ?_) (fun c287 => absurd c287 (by omega))
            refine h_iload (pc' := 8) rfl rfl rfl ?_
            refine h_zne (tg := 20) (pc' := 11) rfl rfl rfl ci_0 (fun c288 => absurd (Int.le_antisymm (by omega) (by omega)) c288) (fun c288 => ?_)
            refine h_aload_n (pc' := 12) rfl rfl rfl ?_
            refine h_getR (pc' := 15) rfl rfl rfl rfl rfl ?_
            refine h_iload_n (pc' := 16) rfl rfl rfl ?_
            refine h_iald (pc' := 17) (v := s263 99 (s0 0 (b3 + 1))) rfl rfl rfl hz265 (by omega) (by omega) rfl (fun z289 hz289 => ?_)
            have tz289 := ty_99_0 Is263 (s0 0 (b3 + 1)) (by omega)
            refine h_goto (pc' := 29) rfl rfl ?_
            refine h_istore (pc' := 31) (M := [(5, .int z289), (0, .ref 98), (1, .int (Int32.ofInt 1)), (2, .int z265), (3, .int z269), (4, .int (Int32.ofInt 0))]) rfl rfl rfl rfl ?_
            refine h_aload_n (pc' := 32) rfl rfl rfl ?_
            refine h_getR (pc' := 35) rfl rfl rfl rfl rfl ?_
            refine h_iload_n (pc' := 36) rfl rfl rfl ?_
            refine h_iload (pc' := 38) rfl rfl rfl ?_
            refine h_zne (tg := 45) (pc' := 41) rfl rfl rfl ci_0 (fun c290 => absurd (Int.le_antisymm (by omega) (by omega)) c290) (fun c290 => ?_)
            refine h_iload_n (pc' := 42) rfl rfl rfl ?_
            refine h_goto (pc' := 58) rfl rfl ?_
            refine h_iast (pc' := 59) rfl rfl rfl rfl hz265 (by omega) (by omega) hz269 (h_fgt (E := fun s => s 64 1 = s0 64 1 ∧ s 98 11 = s0 98 11 ∧ s 64 4 = s0 64 4 ∧ s 98 16 = s0 98 16 ∧ s 90 2 = s0 90 2 ∧ s 98 29 = s0 98 29 ∧ s 10 8 = s0 10 8 ∧ s 98 1 = s0 98 1 ∧ s = h_up s263 99 (s0 0 (b3 + 1)) (s0 0 (b3 + 3))) _ (ip_99_0 Is263 (by omega) (by omega)) (Fs263.up rfl) ⟨es263.1, es263.2.1, es263.2.2.1, es263.2.2.2.1, es263.2.2.2.2.1, es263.2.2.2.2.2.1, es263.2.2.2.2.2.2.1, es263.2.2.2.2.2.2.2.1, rfl⟩ (fun s291 Is291 Fs291 (es291 : s291 64 1 = s0 64 1 ∧ s291 98 11 = s0 98 11 ∧ s291 64 4 = s0 64 4 ∧ s291 98 16 = s0 98 16 ∧ s291 90 2 = s0 90 2 ∧ s291 98 29 = s0 98 29 ∧ s291 10 8 = s0 10 8 ∧ s291 98 1 = s0 98 1 ∧ s291 = h_up s263 99 (s0 0 (b3 + 1)) (s0 0 (b3 + 3))) => ?_))
            clear es263
            have us291 := es291.2.2.2.2.2.2.2.2
            have Zs291 : ∀ i, s291 0 i = s0 0 i := fun i => (h_upo us291 rfl i).trans (Zs263 i)
            refine h_iload (pc' := 61) rfl rfl rfl ?_
            refine h_iret rfl rfl (h_Kv ?_)
            refine h_iret rfl rfl (h_Kv ?_)
            clear hz265 hz267 hz269
            refine h_pop (pc' := 535) rfl rfl rfl ?_
            clear hz289
            refine h_goto (pc' := 1441) rfl rfl ?_
            exact kk _ Is291 (by first | exact d_tape.le j0 (Int.le_antisymm (by omega) (by omega)) (by omega) (fun j => (h_upo us291 rfl j).trans ((h_upo us263 rfl j))) (fun j => (h_upo us291 rfl j).trans ((h_upo us263 rfl j))) | (exfalso; omega)) (Int.le_antisymm (by omega) (by omega)) (c_R.kind j2 I0 (by omega) (by omega) (Int.le_antisymm (by omega) (by omega)) (fun j => (h_upo us291 rfl j).trans ((h_upi us263 j)))  (fun j => (h_upi us291 j).trans (congrArg (fun z => if j = (s0 0 (b3 + 1)) then (s0 0 (b3 + 3)) else z) ((h_upo us263 rfl j))))  (fun p j n0 n1 => (h_upq us291 n1 j).trans ((h_upq us263 n0 j)))) (g_ti.e j3 ((h_upg us291 rfl).trans (h_upg us263 rfl))) (g_SH.e j4 ((h_upg us291 rfl).trans (h_upg us263 rfl)) ((h_upg us291 rfl).trans (h_upg us263 rfl)) ((h_upg us291 rfl).trans (h_upg us263 rfl)) ((h_upg us291 rfl).trans (h_upg us263 rfl)) ((h_upg us291 rfl).trans (h_upg us263 rfl)) ((h_upg us291 rfl).trans (h_upg us263 rfl))) (Int.le_antisymm (by omega) (by omega))
