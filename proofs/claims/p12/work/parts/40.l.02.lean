set_option maxHeartbeats 100000000 in
theorem g_case_462 {ns : Nat} (hns : ns ≤ 320) (s0 : h_S) (I0 : h_I s0) (j0 : d_tape s0 s0) (j1 : s0 64 4 = s0 98 16) (j2 : c_R false s0) (y3 : Int32) (b3 : Int) (hy3 : y3.toInt = b3) (hr : 0 ≤ b3 ∧ b3 + 5 ≤ ns) {Q : Option Value → h_S → Prop} (kk : ∀ τ, h_I τ → (d_tape τ τ) → (τ 64 4 = τ 98 16) → (c_R false τ) → h_T g_P (g_Y ns) 225 1441 [(0, .ref 0), (1, .ref 9), (2, .ref 98), (3, .int y3)] [] τ Q) : h_T g_P (g_Y ns) 225 462 [(0, .ref 0), (1, .ref 9), (2, .ref 98), (3, .int y3)] [] s0 Q := by
  have F0_ : h_F (fun _ _ => true) s0 s0 := h_F.rf
  have j0_ := j0.2
  have i0 := tf_64_1 I0
  have i1 := tf_98_11 I0
  have i2 := tf_64_4 I0
  have i3 := tf_98_16 I0
  have i4 := tf_10_8 I0
  have i5 := tf_98_1 I0
  have j2_ := j2.sz
  have hwf := j2.wf
  refine h_aload_n (pc' := 463) rfl rfl rfl ?_
  refine h_aload_n (pc' := 464) rfl rfl rfl ?_
  refine h_iload_n (pc' := 465) rfl rfl rfl ?_
  refine h_iconst (pc' := 466) (x := (Int32.ofInt 1)) rfl rfl rfl ?_
  refine h_iadd (pc' := 467) rfl rfl hy3 ci_1 rfl (by omega) (by omega) (fun z1 hz1 => ?_)
  refine h_iald (pc' := 468) (v := s0 0 (b3 + 1)) rfl rfl rfl hz1 (by omega) (by omega) rfl (fun z2 hz2 => ?_)
  have tz2 := h_rgv hz2
  clear hz1
  refine h_aload_n (pc' := 469) rfl rfl rfl ?_
  refine h_iload_n (pc' := 470) rfl rfl rfl ?_
  refine h_iconst (pc' := 471) (x := (Int32.ofInt 2)) rfl rfl rfl ?_
  refine h_iadd (pc' := 472) rfl rfl hy3 ci_2 rfl (by omega) (by omega) (fun z3 hz3 => ?_)
  refine h_iald (pc' := 473) (v := s0 0 (b3 + 2)) rfl rfl rfl hz3 (by omega) (by omega) rfl (fun z4 hz4 => ?_)
  have tz4 := h_rgv hz4
  clear hz3
  refine h_call (sp := false) (pc' := 476) (M := [(0, .ref 9), (1, .int z2), (2, .int z4)]) rfl rfl rfl rfl rfl rfl rfl rfl ?_
  refine h_aload_n (pc' := 1) rfl rfl rfl ?_
  refine h_getR (pc' := 4) rfl rfl rfl rfl rfl ?_
  refine h_iload_n (pc' := 5) rfl rfl rfl ?_
  refine h_call (sp := false) (pc' := 8) (M := [(0, .ref 10), (1, .int z2)]) rfl rfl rfl rfl rfl rfl rfl rfl ?_
  refine h_iload_n (pc' := 1) rfl rfl rfl ?_
  refine h_zlt (tg := 16) (pc' := 4) rfl rfl rfl hz2 (fun c5 => ?_) (fun c5 => ?_)
  · refine h_iconst (pc' := 17) (x := (Int32.ofInt 0)) rfl rfl rfl ?_
    refine h_zret rfl rfl ci_0 (by omega) (h_Kv ?_)
    refine h_zeq (tg := 22) (pc' := 11) rfl rfl rfl ci_0 (fun c6 => ?_) (fun c6 => absurd (Int.le_antisymm (by omega) (by omega)) c6)
    refine h_iconst (pc' := 23) (x := (Int32.ofInt (-1))) rfl rfl rfl ?_
    refine h_iret rfl rfl (h_Kv ?_)
    clear hz2 hz4
    refine h_aload_n (pc' := 477) rfl rfl rfl ?_
    refine h_aload_n (pc' := 478) rfl rfl rfl ?_
    refine h_iload_n (pc' := 479) rfl rfl rfl ?_
    refine h_iconst (pc' := 480) (x := (Int32.ofInt 1)) rfl rfl rfl ?_
    refine h_iadd (pc' := 481) rfl rfl hy3 ci_1 rfl (by omega) (by omega) (fun z7 hz7 => ?_)
    refine h_iald (pc' := 482) (v := s0 0 (b3 + 1)) rfl rfl rfl hz7 (by omega) (by omega) rfl (fun z8 hz8 => ?_)
    have tz8 := h_rgv hz8
    clear hz7
    refine h_aload_n (pc' := 483) rfl rfl rfl ?_
    refine h_iload_n (pc' := 484) rfl rfl rfl ?_
    refine h_iconst (pc' := 485) (x := (Int32.ofInt 2)) rfl rfl rfl ?_
    refine h_iadd (pc' := 486) rfl rfl hy3 ci_2 rfl (by omega) (by omega) (fun z9 hz9 => ?_)
    refine h_iald (pc' := 487) (v := s0 0 (b3 + 2)) rfl rfl rfl hz9 (by omega) (by omega) rfl (fun z10 hz10 => ?_)
    have tz10 := h_rgv hz10
    clear hz9
    refine h_call (sp := false) (pc' := 490) (M := [(0, .ref 98), (1, .int z8), (2, .int z10)]) rfl rfl rfl rfl rfl rfl rfl rfl ?_
    refine n_foM _ I0 z8 _ hz8 z10 _ hz10 (fun r11 br11 hr11 tr11 ps12_0 => h_Kv ?_)
    clear hz10 hz8
    refine h_ceq (tg := 1441) (pc' := 493) rfl rfl rfl ci_m1 hr11 (fun c13 => ?_) (fun c13 => ?_)
    · clear hr11
      exact kk _ I0 (by first | exact d_tape.le j0 (Int.le_antisymm (by omega) (by omega)) (by omega) (fun j => rfl) (fun j => rfl) | (exfalso; omega)) (Int.le_antisymm (by omega) (by omega)) j2
    · clear hr11
      refine h_iconst (pc' := 494) (x := (Int32.ofInt 0)) rfl rfl rfl ?_
      have ga := j2.fo (a := s0 0 (b3 + 1)) (b := s0 0 (b3 + 2)) (by omega) (by omega)
      exfalso
      omega
  · refine h_iload_n (pc' := 5) rfl rfl rfl ?_
    refine h_aload_n (pc' := 6) rfl rfl rfl ?_
    refine h_getI (pc' := 9) (v := s0 10 8) rfl rfl rfl rfl rfl rfl (fun z14 hz14 => ?_)
    have tz14 := tf_10_8 I0
    refine h_cge (tg := 16) (pc' := 12) rfl rfl rfl hz2 hz14 (fun c15 => ?_) (fun c15 => ?_)
    · clear hz14
      refine h_iconst (pc' := 17) (x := (Int32.ofInt 0)) rfl rfl rfl ?_
      refine h_zret rfl rfl ci_0 (by omega) (h_Kv ?_)
      refine h_zeq (tg := 22) (pc' := 11) rfl rfl rfl ci_0 (fun c16 => ?_) (fun c16 => absurd (Int.le_antisymm (by omega) (by omega)) c16)
      refine h_iconst (pc' := 23) (x := (Int32.ofInt (-1))) rfl rfl rfl ?_
      refine h_iret rfl rfl (h_Kv ?_)
      clear hz2 hz4
      refine h_aload_n (pc' := 477) rfl rfl rfl ?_
      refine h_aload_n (pc' := 478) rfl rfl rfl ?_
      refine h_iload_n (pc' := 479) rfl rfl rfl ?_
      refine h_iconst (pc' := 480) (x := (Int32.ofInt 1)) rfl rfl rfl ?_
      refine h_iadd (pc' := 481) rfl rfl hy3 ci_1 rfl (by omega) (by omega) (fun z17 hz17 => ?_)
      refine h_iald (pc' := 482) (v := s0 0 (b3 + 1)) rfl rfl rfl hz17 (by omega) (by omega) rfl (fun z18 hz18 => ?_)
      have tz18 := h_rgv hz18
      clear hz17
      refine h_aload_n (pc' := 483) rfl rfl rfl ?_
      refine h_iload_n (pc' := 484) rfl rfl rfl ?_
      refine h_iconst (pc' := 485) (x := (Int32.ofInt 2)) rfl rfl rfl ?_
      refine h_iadd (pc' := 486) rfl rfl hy3 ci_2 rfl (by omega) (by omega) (fun z19 hz19 => ?_)
      refine h_iald (pc' := 487) (v := s0 0 (b3 + 2)) rfl rfl rfl hz19 (by omega) (by omega) rfl (fun z20 hz20 => ?_)
      have tz20 := h_rgv hz20
      clear hz19
      refine h_call (sp := false) (pc' := 490) (M := [(0, .ref 98), (1, .int z18), (2, .int z20)]) rfl rfl rfl rfl rfl rfl rfl rfl ?_
      refine n_foM _ I0 z18 _ hz18 z20 _ hz20 (fun r21 br21 hr21 tr21 ps22_0 => h_Kv ?_)
      clear hz18 hz20
      refine h_ceq (tg := 1441) (pc' := 493) rfl rfl rfl ci_m1 hr21 (fun c23 => ?_) (fun c23 => ?_)
      · clear hr21
        exact kk _ I0 (by first | exact d_tape.le j0 (Int.le_antisymm (by omega) (by omega)) (by omega) (fun j => rfl) (fun j => rfl) | (exfalso; omega)) (Int.le_antisymm (by omega) (by omega)) j2
      · clear hr21
        refine h_iconst (pc' := 494) (x := (Int32.ofInt 0)) rfl rfl rfl ?_
        have ga := j2.fo (a := s0 0 (b3 + 1)) (b := s0 0 (b3 + 2)) (by omega) (by omega)
        exfalso
        omega
    · clear hz14
      refine h_iconst (pc' := 13) (x := (Int32.ofInt 1)) rfl rfl rfl ?_
      refine h_goto (pc' := 17) rfl rfl ?_
      refine h_zret rfl rfl ci_1 (by omega) (h_Kv ?_)
      refine h_zeq (tg := 22) (pc' := 11) rfl rfl rfl ci_1 (fun c24 => absurd c24 (by omega)) (fun c24 => ?_)
      refine h_aload_n (pc' := 12) rfl rfl rfl ?_
      refine h_getR (pc' := 15) rfl rfl rfl rfl rfl ?_
      refine h_iload_n (pc' := 16) rfl rfl rfl ?_
      refine h_call (sp := false) (pc' := 19) (M := [(0, .ref 10), (1, .int z4)]) rfl rfl rfl rfl rfl rfl rfl rfl ?_
      refine h_iload_n (pc' := 1) rfl rfl rfl ?_
      refine h_zlt (tg := 16) (pc' := 4) rfl rfl rfl hz4 (fun c25 => ?_) (fun c25 => ?_)
      · refine h_iconst (pc' := 17) (x := (Int32.ofInt 0)) rfl rfl rfl ?_
        refine h_zret rfl rfl ci_0 (by omega) (h_Kv ?_)
        refine h_zne (tg := 24) (pc' := 22) rfl rfl rfl ci_0 (fun c26 => absurd (Int.le_antisymm (by omega) (by omega)) c26) (fun c26 => ?_)
        refine h_iconst (pc' := 23) (x := (Int32.ofInt (-1))) rfl rfl rfl ?_
        refine h_iret rfl rfl (h_Kv ?_)
        clear hz2 hz4
        refine h_aload_n (pc' := 477) rfl rfl rfl ?_
        refine h_aload_n (pc' := 478) rfl rfl rfl ?_
        refine h_iload_n (pc' := 479) rfl rfl rfl ?_
        refine h_iconst (pc' := 480) (x := (Int32.ofInt 1)) rfl rfl rfl ?_
        refine h_iadd (pc' := 481) rfl rfl hy3 ci_1 rfl (by omega) (by omega) (fun z27 hz27 => ?_)
        refine h_iald (pc' := 482) (v := s0 0 (b3 + 1)) rfl rfl rfl hz27 (by omega) (by omega) rfl (fun z28 hz28 => ?_)
        have tz28 := h_rgv hz28
        clear hz27
        refine h_aload_n (pc' := 483) rfl rfl rfl ?_
        refine h_iload_n (pc' := 484) rfl rfl rfl ?_
        refine h_iconst (pc' := 485) (x := (Int32.ofInt 2)) rfl rfl rfl ?_
        refine h_iadd (pc' := 486) rfl rfl hy3 ci_2 rfl (by omega) (by omega) (fun z29 hz29 => ?_)
        refine h_iald (pc' := 487) (v := s0 0 (b3 + 2)) rfl rfl rfl hz29 (by omega) (by omega) rfl (fun z30 hz30 => ?_)
        have tz30 := h_rgv hz30
        clear hz29
        refine h_call (sp := false) (pc' := 490) (M := [(0, .ref 98), (1, .int z28), (2, .int z30)]) rfl rfl rfl rfl rfl rfl rfl rfl ?_
        refine n_foM _ I0 z28 _ hz28 z30 _ hz30 (fun r31 br31 hr31 tr31 ps32_0 => h_Kv ?_)
        clear hz28 hz30
        refine h_ceq (tg := 1441) (pc' := 493) rfl rfl rfl ci_m1 hr31 (fun c33 => ?_) (fun c33 => ?_)
        · clear hr31
          exact kk _ I0 (by first | exact d_tape.le j0 (Int.le_antisymm (by omega) (by omega)) (by omega) (fun j => rfl) (fun j => rfl) | (exfalso; omega)) (Int.le_antisymm (by omega) (by omega)) j2
        · clear hr31
          refine h_iconst (pc' := 494) (x := (Int32.ofInt 0)) rfl rfl rfl ?_
          have ga := j2.fo (a := s0 0 (b3 + 1)) (b := s0 0 (b3 + 2)) (by omega) (by omega)
          exfalso
          omega
      · refine h_iload_n (pc' := 5) rfl rfl rfl ?_
        refine h_aload_n (pc' := 6) rfl rfl rfl ?_
        refine h_getI (pc' := 9) (v := s0 10 8) rfl rfl rfl rfl rfl rfl (fun z34 hz34 => ?_)
        refine h_cge (tg := 16) (pc' := 12) rfl rfl rfl hz4 hz34 (fun c35 => ?_) (fun c35 => ?_)
        · clear hz34
          refine h_iconst (pc' := 17) (x := (Int32.ofInt 0)) rfl rfl rfl ?_
          refine h_zret rfl rfl ci_0 (by omega) (h_Kv ?_)
          refine h_zne (tg := 24) (pc' := 22) rfl rfl rfl ci_0 (fun c36 => absurd (Int.le_antisymm (by omega) (by omega)) c36) (fun c36 => ?_)
          refine h_iconst (pc' := 23) (x := (Int32.ofInt (-1))) rfl rfl rfl ?_
          refine h_iret rfl rfl (h_Kv ?_)
          clear hz2 hz4
          refine h_aload_n (pc' := 477) rfl rfl rfl ?_
          refine h_aload_n (pc' := 478) rfl rfl rfl ?_
          refine h_iload_n (pc' := 479) rfl rfl rfl ?_
          refine h_iconst (pc' := 480) (x := (Int32.ofInt 1)) rfl rfl rfl ?_
          refine h_iadd (pc' := 481) rfl rfl hy3 ci_1 rfl (by omega) (by omega) (fun z37 hz37 => ?_)
          refine h_iald (pc' := 482) (v := s0 0 (b3 + 1)) rfl rfl rfl hz37 (by omega) (by omega) rfl (fun z38 hz38 => ?_)
          have tz38 := h_rgv hz38
          clear hz37
          refine h_aload_n (pc' := 483) rfl rfl rfl ?_
          refine h_iload_n (pc' := 484) rfl rfl rfl ?_
          refine h_iconst (pc' := 485) (x := (Int32.ofInt 2)) rfl rfl rfl ?_
          refine h_iadd (pc' := 486) rfl rfl hy3 ci_2 rfl (by omega) (by omega) (fun z39 hz39 => ?_)
          refine h_iald (pc' := 487) (v := s0 0 (b3 + 2)) rfl rfl rfl hz39 (by omega) (by omega) rfl (fun z40 hz40 => ?_)
          have tz40 := h_rgv hz40
          clear hz39
          refine h_call (sp := false) (pc' := 490) (M := [(0, .ref 98), (1, .int z38), (2, .int z40)]) rfl rfl rfl rfl rfl rfl rfl rfl ?_
          refine n_foM _ I0 z38 _ hz38 z40 _ hz40 (fun r41 br41 hr41 tr41 ps42_0 => h_Kv ?_)
          clear hz38 hz40
          refine h_ceq (tg := 1441) (pc' := 493) rfl rfl rfl ci_m1 hr41 (fun c43 => ?_) (fun c43 => ?_)
          · clear hr41
            exact kk _ I0 (by first | exact d_tape.le j0 (Int.le_antisymm (by omega) (by omega)) (by omega) (fun j => rfl) (fun j => rfl) | (exfalso; omega)) (Int.le_antisymm (by omega) (by omega)) j2
          · clear hr41
            refine h_iconst (pc' := 494) (x := (Int32.ofInt 0)) rfl rfl rfl ?_
            have ga := j2.fo (a := s0 0 (b3 + 1)) (b := s0 0 (b3 + 2)) (by omega) (by omega)
            exfalso
            omega
        · clear hz34
          refine h_iconst (pc' := 13) (x := (Int32.ofInt 1)) rfl rfl rfl ?_
          refine h_goto (pc' := 17) rfl rfl ?_
          refine h_zret rfl rfl ci_1 (by omega) (h_Kv ?_)
          refine h_zne (tg := 24) (pc' := 22) rfl rfl rfl ci_1 (fun c44 => ?_) (fun c44 => absurd c44 (by omega))
          refine h_aload_n (pc' := 25) rfl rfl rfl ?_
          refine h_getR (pc' := 28) rfl rfl rfl rfl rfl ?_
          refine h_iload_n (pc' := 29) rfl rfl rfl ?_
          refine h_iload_n (pc' := 30) rfl rfl rfl ?_
          refine h_call (sp := false) (pc' := 33) (M := [(0, .ref 10), (1, .int z2), (2, .int z4)]) rfl rfl rfl rfl rfl rfl rfl rfl ?_
          refine n_cfX _ I0 z2 _ hz2 (by omega) z4 _ hz4 (by omega) (by omega) (by omega) hwf (fun r45 br45 hr45 tr45 ps46_0 => h_Kv ?_)
          refine h_iret rfl rfl (h_Kv ?_)
          clear hz2 hz4
          refine h_aload_n (pc' := 477) rfl rfl rfl ?_
          refine h_aload_n (pc' := 478) rfl rfl rfl ?_
          refine h_iload_n (pc' := 479) rfl rfl rfl ?_
          refine h_iconst (pc' := 480) (x := (Int32.ofInt 1)) rfl rfl rfl ?_
          refine h_iadd (pc' := 481) rfl rfl hy3 ci_1 rfl (by omega) (by omega) (fun z47 hz47 => ?_)
          refine h_iald (pc' := 482) (v := s0 0 (b3 + 1)) rfl rfl rfl hz47 (by omega) (by omega) rfl (fun z48 hz48 => ?_)
          have tz48 := h_rgv hz48
          clear hz47
          refine h_aload_n (pc' := 483) rfl rfl rfl ?_
          refine h_iload_n (pc' := 484) rfl rfl rfl ?_
          refine h_iconst (pc' := 485) (x := (Int32.ofInt 2)) rfl rfl rfl ?_
          refine h_iadd (pc' := 486) rfl rfl hy3 ci_2 rfl (by omega) (by omega) (fun z49 hz49 => ?_)
          refine h_iald (pc' := 487) (v := s0 0 (b3 + 2)) rfl rfl rfl hz49 (by omega) (by omega) rfl (fun z50 hz50 => ?_)
          have tz50 := h_rgv hz50
          clear hz49
          refine h_call (sp := false) (pc' := 490) (M := [(0, .ref 98), (1, .int z48), (2, .int z50)]) rfl rfl rfl rfl rfl rfl rfl rfl ?_
          refine n_foM _ I0 z48 _ hz48 z50 _ hz50 (fun r51 br51 hr51 tr51 ps52_0 => h_Kv ?_)
          clear hz48 hz50
          refine h_ceq (tg := 1441) (pc' := 493) rfl rfl rfl hr45 hr51 (fun c53 => ?_) (fun c53 => ?_)
          · clear hr45 hr51
            exact kk _ I0 (by first | exact d_tape.le j0 (Int.le_antisymm (by omega) (by omega)) (by omega) (fun j => rfl) (fun j => rfl) | (exfalso; omega)) (Int.le_antisymm (by omega) (by omega)) j2
          · clear hr45 hr51
            refine h_iconst (pc' := 494) (x := (Int32.ofInt 0)) rfl rfl rfl ?_
            have ga := j2.fo (a := s0 0 (b3 + 1)) (b := s0 0 (b3 + 2)) (by omega) (by omega)
            exfalso
            omega
