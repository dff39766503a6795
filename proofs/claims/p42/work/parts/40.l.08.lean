set_option maxHeartbeats 100000000 in
theorem g_case_680 {ns : Nat} (hns : ns ≤ 320) (s0 : h_S) (I0 : h_I s0) (j0 : d_tape s0 s0) (j1 : s0 64 4 = s0 98 16) (j2 : c_R true s0) (j3 : g_ti s0) (j4 : g_SH s0) (j5 : s0 90 2 = s0 98 29) (y3 : Int32) (b3 : Int) (hy3 : y3.toInt = b3) (hr : 0 ≤ b3 ∧ b3 + 5 ≤ ns) {Q : Option Value → h_S → Prop} (kk : ∀ τ, h_I τ → (d_tape τ τ) → (τ 64 4 = τ 98 16) → (c_R true τ) → (g_ti τ) → (g_SH τ) → (τ 90 2 = τ 98 29) → h_T g_P (g_Y ns) 225 1441 [(0, .ref 0), (1, .ref 9), (2, .ref 98), (3, .int y3)] [] τ Q) : h_T g_P (g_Y ns) 225 680 [(0, .ref 0), (1, .ref 9), (2, .ref 98), (3, .int y3)] [] s0 Q := by
  have F0_ : h_F (fun _ _ => true) s0 s0 := h_F.rf
  have j0_ := j0.2
  have i0 := tf_64_1 I0
  have i1 := tf_98_11 I0
  have i2 := tf_64_4 I0
  have i3 := tf_98_16 I0
  have i4 := tf_90_2 I0
  have i5 := tf_98_29 I0
  have i6 := tf_10_8 I0
  have i7 := tf_98_1 I0
  have i8 := tf_10_9 I0
  have i9 := tf_98_2 I0
  have i10 := tf_10_10 I0
  have j2_ := j2.sz
  have y43 := ty_99_10 I0 43 (by omega)
  refine h_aload_n (pc' := 681) rfl rfl rfl ?_
  refine h_aload_n (pc' := 682) rfl rfl rfl ?_
  refine h_iload_n (pc' := 683) rfl rfl rfl ?_
  refine h_iconst (pc' := 684) (x := (Int32.ofInt 1)) rfl rfl rfl ?_
  refine h_iadd (pc' := 685) rfl rfl hy3 ci_1 rfl (by omega) (by omega) (fun z1 hz1 => ?_)
  refine h_iald (pc' := 686) (v := s0 0 (b3 + 1)) rfl rfl rfl hz1 (by omega) (by omega) rfl (fun z2 hz2 => ?_)
  have tz2 := h_rgv hz2
  clear hz1
  refine h_call (sp := false) (pc' := 689) (M := [(0, .ref 9), (1, .int z2)]) rfl rfl rfl rfl rfl rfl rfl rfl ?_
  refine h_iload_n (pc' := 1) rfl rfl rfl ?_
  refine h_zlt (tg := 32) (pc' := 4) rfl rfl rfl hz2 (fun c3 => ?_) (fun c3 => ?_)
  · refine h_iconst (pc' := 33) (x := (Int32.ofInt (-1))) rfl rfl rfl ?_
    refine h_iret rfl rfl (h_Kv ?_)
    clear hz2
    refine h_pop (pc' := 690) rfl rfl rfl ?_
    refine h_aload_n (pc' := 691) rfl rfl rfl ?_
    refine h_aload_n (pc' := 692) rfl rfl rfl ?_
    refine h_iload_n (pc' := 693) rfl rfl rfl ?_
    refine h_iconst (pc' := 694) (x := (Int32.ofInt 1)) rfl rfl rfl ?_
    refine h_iadd (pc' := 695) rfl rfl hy3 ci_1 rfl (by omega) (by omega) (fun z4 hz4 => ?_)
    refine h_iald (pc' := 696) (v := s0 0 (b3 + 1)) rfl rfl rfl hz4 (by omega) (by omega) rfl (fun z5 hz5 => ?_)
    have tz5 := h_rgv hz5
    clear hz4
    refine h_call (sp := false) (pc' := 699) (M := [(0, .ref 98), (1, .int z5)]) rfl rfl rfl rfl rfl rfl rfl rfl ?_
    refine h_iload_n (pc' := 1) rfl rfl rfl ?_
    refine h_zlt (tg := 26) (pc' := 4) rfl rfl rfl hz5 (fun c6 => ?_) (fun c6 => absurd c6 (by omega))
    refine h_iconst (pc' := 27) (x := (Int32.ofInt (-1))) rfl rfl rfl ?_
    refine h_iret rfl rfl (h_Kv ?_)
    clear hz5
    refine h_pop (pc' := 700) rfl rfl rfl ?_
    refine h_goto (pc' := 1441) rfl rfl ?_
    exact kk _ I0 (by first | exact d_tape.le j0 (Int.le_antisymm (by omega) (by omega)) (by omega) (fun j => rfl) (fun j => rfl) | (exfalso; omega)) (Int.le_antisymm (by omega) (by omega)) j2 (g_ti.e j3 rfl) (g_SH.e j4 rfl rfl rfl rfl rfl rfl) (Int.le_antisymm (by omega) (by omega))
  · refine h_aload_n (pc' := 5) rfl rfl rfl ?_
    refine h_getR (pc' := 8) rfl rfl rfl rfl rfl ?_
    refine h_iload_n (pc' := 9) rfl rfl rfl ?_
    refine h_bipush (pc' := 11) (x := (Int32.ofInt 10)) rfl rfl cb_10 ?_
    refine h_idiv (pc' := 12) rfl rfl hz2 ci_10 (by omega) (by omega) (fun z7 hz7 => ?_)
    refine h_call (sp := false) (pc' := 15) (M := [(0, .ref 10), (1, .int z7)]) rfl rfl rfl rfl rfl rfl rfl rfl ?_
    refine h_iload_n (pc' := 1) rfl rfl rfl ?_
    refine h_zlt (tg := 16) (pc' := 4) rfl rfl rfl hz7 (fun c8 => absurd c8 (by omega)) (fun c8 => ?_)
    refine h_iload_n (pc' := 5) rfl rfl rfl ?_
    refine h_aload_n (pc' := 6) rfl rfl rfl ?_
    refine h_getI (pc' := 9) (v := s0 10 8) rfl rfl rfl rfl rfl rfl (fun z9 hz9 => ?_)
    have tz9 := tf_10_8 I0
    refine h_cge (tg := 16) (pc' := 12) rfl rfl rfl hz7 hz9 (fun c10 => ?_) (fun c10 => ?_)
    · clear hz9
      refine h_iconst (pc' := 17) (x := (Int32.ofInt 0)) rfl rfl rfl ?_
      refine h_zret rfl rfl ci_0 (by omega) (h_Kv ?_)
      clear hz7
      refine h_zeq (tg := 32) (pc' := 18) rfl rfl rfl ci_0 (fun c11 => ?_) (fun c11 => absurd (Int.le_antisymm (by omega) (by omega)) c11)
      refine h_iconst (pc' := 33) (x := (Int32.ofInt (-1))) rfl rfl rfl ?_
      refine h_iret rfl rfl (h_Kv ?_)
      clear hz2
      refine h_pop (pc' := 690) rfl rfl rfl ?_
      refine h_aload_n (pc' := 691) rfl rfl rfl ?_
      refine h_aload_n (pc' := 692) rfl rfl rfl ?_
      refine h_iload_n (pc' := 693) rfl rfl rfl ?_
      refine h_iconst (pc' := 694) (x := (Int32.ofInt 1)) rfl rfl rfl ?_
      refine h_iadd (pc' := 695) rfl rfl hy3 ci_1 rfl (by omega) (by omega) (fun z12 hz12 => ?_)
      refine h_iald (pc' := 696) (v := s0 0 (b3 + 1)) rfl rfl rfl hz12 (by omega) (by omega) rfl (fun z13 hz13 => ?_)
      have tz13 := h_rgv hz13
      clear hz12
      refine h_call (sp := false) (pc' := 699) (M := [(0, .ref 98), (1, .int z13)]) rfl rfl rfl rfl rfl rfl rfl rfl ?_
      refine h_iload_n (pc' := 1) rfl rfl rfl ?_
      refine h_zlt (tg := 26) (pc' := 4) rfl rfl rfl hz13 (fun c14 => absurd c14 (by omega)) (fun c14 => ?_)
      refine h_aload_n (pc' := 5) rfl rfl rfl ?_
      refine h_iload_n (pc' := 6) rfl rfl rfl ?_
      refine h_bipush (pc' := 8) (x := (Int32.ofInt 10)) rfl rfl cb_10 ?_
      refine h_idiv (pc' := 9) rfl rfl hz13 ci_10 (by omega) (by omega) (fun z15 hz15 => ?_)
      refine h_call (sp := false) (pc' := 12) (M := [(0, .ref 98), (1, .int z15)]) rfl rfl rfl rfl rfl rfl rfl rfl ?_
      refine h_iload_n (pc' := 1) rfl rfl rfl ?_
      refine h_i2l (pc' := 2) rfl rfl hz15 (fun z16 hz16 => ?_)
      refine h_lconst (pc' := 3) (x := (Int64.ofInt 0)) rfl rfl rfl ?_
      refine h_aload_n (pc' := 4) rfl rfl rfl ?_
      refine h_getI (pc' := 7) (v := s0 98 1) rfl rfl rfl rfl rfl rfl (fun z17 hz17 => ?_)
      have tz17 := tf_98_1 I0
      refine h_iconst (pc' := 8) (x := (Int32.ofInt 1)) rfl rfl rfl ?_
      refine h_isub (pc' := 9) rfl rfl hz17 ci_1 rfl (by omega) (by omega) (fun z18 hz18 => ?_)
      clear hz17
      refine h_i2l (pc' := 10) rfl rfl hz18 (fun z19 hz19 => ?_)
      clear hz18
      refine h_calls (pc' := 13) (M := [(0, .long z16), (2, .long (Int64.ofInt 0)), (4, .long z19)]) rfl rfl rfl rfl rfl rfl ?_
      refine h_lload_n (pc' := 1) rfl rfl rfl ?_
      refine h_lload_n (pc' := 2) rfl rfl rfl ?_
      refine h_lcmp (pc' := 3) rfl rfl hz16 cl_0 (fun z20 hz20 => ?_)
      refine h_zlt (tg := 17) (pc' := 6) rfl rfl rfl rfl (fun c21 => absurd c21 (by omega)) (fun c21 => ?_)
      replace c21 := (h_lcr hz20).2.1 c21
      clear hz20
      refine h_lload_n (pc' := 7) rfl rfl rfl ?_
      refine h_lload (pc' := 9) rfl rfl rfl ?_
      refine h_lcmp (pc' := 10) rfl rfl hz16 hz19 (fun z22 hz22 => ?_)
      refine h_zgt (tg := 17) (pc' := 13) rfl rfl rfl rfl (fun c23 => ?_) (fun c23 => absurd c23 (by omega))
      replace c23 := (h_lcr hz22).2.2.2.1 c23
      clear hz22
      refine h_iconst (pc' := 18) (x := (Int32.ofInt 0)) rfl rfl rfl ?_
      refine h_zret rfl rfl ci_0 (by omega) (h_Kv ?_)
      clear hz16 hz19
      refine h_zret rfl rfl ci_0 (by omega) (h_Kv ?_)
      clear hz15
      refine h_zeq (tg := 26) (pc' := 15) rfl rfl rfl ci_0 (fun c24 => ?_) (fun c24 => absurd (Int.le_antisymm (by omega) (by omega)) c24)
      refine h_iconst (pc' := 27) (x := (Int32.ofInt (-1))) rfl rfl rfl ?_
      refine h_iret rfl rfl (h_Kv ?_)
      clear hz13
      refine h_pop (pc' := 700) rfl rfl rfl ?_
      refine h_goto (pc' := 1441) rfl rfl ?_
      exact kk _ I0 (by first | exact d_tape.le j0 (Int.le_antisymm (by omega) (by omega)) (by omega) (fun j => rfl) (fun j => rfl) | (exfalso; omega)) (Int.le_antisymm (by omega) (by omega)) j2 (g_ti.e j3 rfl) (g_SH.e j4 rfl rfl rfl rfl rfl rfl) (Int.le_antisymm (by omega) (by omega))
    · clear hz9
      refine h_iconst (pc' := 13) (x := (Int32.ofInt 1)) rfl rfl rfl ?_
      refine h_goto (pc' := 17) rfl rfl ?_
      refine h_zret rfl rfl ci_1 (by omega) (h_Kv ?_)
      clear hz7
      refine h_zeq (tg := 32) (pc' := 18) rfl rfl rfl ci_1 (fun c25 => absurd c25 (by omega)) (fun c25 => ?_)
      refine h_aload_n (pc' := 19) rfl rfl rfl ?_
      refine h_getR (pc' := 22) rfl rfl rfl rfl rfl ?_
      refine h_iload_n (pc' := 23) rfl rfl rfl ?_
      refine h_bipush (pc' := 25) (x := (Int32.ofInt 10)) rfl rfl cb_10 ?_
      refine h_irem (pc' := 26) rfl rfl hz2 ci_10 (by omega) (by omega) (fun z26 hz26 => ?_)
      refine h_call (sp := false) (pc' := 29) (M := [(0, .ref 10), (1, .int z26)]) rfl rfl rfl rfl rfl rfl rfl rfl ?_
      refine h_iload_n (pc' := 1) rfl rfl rfl ?_
      refine h_zlt (tg := 16) (pc' := 4) rfl rfl rfl hz26 (fun c27 => absurd c27 (by omega)) (fun c27 => ?_)
      refine h_iload_n (pc' := 5) rfl rfl rfl ?_
      refine h_aload_n (pc' := 6) rfl rfl rfl ?_
      refine h_getI (pc' := 9) (v := s0 10 9) rfl rfl rfl rfl rfl rfl (fun z28 hz28 => ?_)
      have tz28 := tf_10_9 I0
      refine h_cge (tg := 16) (pc' := 12) rfl rfl rfl hz26 hz28 (fun c29 => ?_) (fun c29 => ?_)
      · clear hz28
        refine h_iconst (pc' := 17) (x := (Int32.ofInt 0)) rfl rfl rfl ?_
        refine h_zret rfl rfl ci_0 (by omega) (h_Kv ?_)
        clear hz26
        refine h_zne (tg := 34) (pc' := 32) rfl rfl rfl ci_0 (fun c30 => absurd (Int.le_antisymm (by omega) (by omega)) c30) (fun c30 => ?_)
        refine h_iconst (pc' := 33) (x := (Int32.ofInt (-1))) rfl rfl rfl ?_
        refine h_iret rfl rfl (h_Kv ?_)
        clear hz2
        refine h_pop (pc' := 690) rfl rfl rfl ?_
        refine h_aload_n (pc' := 691) rfl rfl rfl ?_
        refine h_aload_n (pc' := 692) rfl rfl rfl ?_
        refine h_iload_n (pc' := 693) rfl rfl rfl ?_
        refine h_iconst (pc' := 694) (x := (Int32.ofInt 1)) rfl rfl rfl ?_
        refine h_iadd (pc' := 695) rfl rfl hy3 ci_1 rfl (by omega) (by omega) (fun z31 hz31 => ?_)
        refine h_iald (pc' := 696) (v := s0 0 (b3 + 1)) rfl rfl rfl hz31 (by omega) (by omega) rfl (fun z32 hz32 => ?_)
        have tz32 := h_rgv hz32
        clear hz31
        refine h_call (sp := false) (pc' := 699) (M := [(0, .ref 98), (1, .int z32)]) rfl rfl rfl rfl rfl rfl rfl rfl ?_
        refine h_iload_n (pc' := 1) rfl rfl rfl ?_
        refine h_zlt (tg := 26) (pc' := 4) rfl rfl rfl hz32 (fun c33 => absurd c33 (by omega)) (fun c33 => ?_)
        refine h_aload_n (pc' := 5) rfl rfl rfl ?_
        refine h_iload_n (pc' := 6) rfl rfl rfl ?_
        refine h_bipush (pc' := 8) (x := (Int32.ofInt 10)) rfl rfl cb_10 ?_
        refine h_idiv (pc' := 9) rfl rfl hz32 ci_10 (by omega) (by omega) (fun z34 hz34 => ?_)
        refine h_call (sp := false) (pc' := 12) (M := [(0, .ref 98), (1, .int z34)]) rfl rfl rfl rfl rfl rfl rfl rfl ?_
        refine h_iload_n (pc' := 1) rfl rfl rfl ?_
        refine h_i2l (pc' := 2) rfl rfl hz34 (fun z35 hz35 => ?_)
        refine h_lconst (pc' := 3) (x := (Int64.ofInt 0)) rfl rfl rfl ?_
        refine h_aload_n (pc' := 4) rfl rfl rfl ?_
        refine h_getI (pc' := 7) (v := s0 98 1) rfl rfl rfl rfl rfl rfl (fun z36 hz36 => ?_)
        have tz36 := tf_98_1 I0
        refine h_iconst (pc' := 8) (x := (Int32.ofInt 1)) rfl rfl rfl ?_
        refine h_isub (pc' := 9) rfl rfl hz36 ci_1 rfl (by omega) (by omega) (fun z37 hz37 => ?_)
        clear hz36
        refine h_i2l (pc' := 10) rfl rfl hz37 (fun z38 hz38 => ?_)
        clear hz37
        refine h_calls (pc' := 13) (M := [(0, .long z35), (2, .long (Int64.ofInt 0)), (4, .long z38)]) rfl rfl rfl rfl rfl rfl ?_
        refine h_lload_n (pc' := 1) rfl rfl rfl ?_
        refine h_lload_n (pc' := 2) rfl rfl rfl ?_
        refine h_lcmp (pc' := 3) rfl rfl hz35 cl_0 (fun z39 hz39 => ?_)
        refine h_zlt (tg := 17) (pc' := 6) rfl rfl rfl rfl (fun c40 => absurd c40 (by omega)) (fun c40 => ?_)
        replace c40 := (h_lcr hz39).2.1 c40
        clear hz39
        refine h_lload_n (pc' := 7) rfl rfl rfl ?_
        refine h_lload (pc' := 9) rfl rfl rfl ?_
        refine h_lcmp (pc' := 10) rfl rfl hz35 hz38 (fun z41 hz41 => ?_)
        refine h_zgt (tg := 17) (pc' := 13) rfl rfl rfl rfl (fun c42 => absurd c42 (by omega)) (fun c42 => ?_)
        replace c42 := (h_lcr hz41).2.2.1 c42
        clear hz41
        refine h_iconst (pc' := 14) (x := (Int32.ofInt 1)) rfl rfl rfl ?_
        refine h_goto (pc' := 18) rfl rfl ?_
        refine h_zret rfl rfl ci_1 (by omega) (h_Kv ?_)
        clear hz35 hz38
        refine h_zret rfl rfl ci_1 (by omega) (h_Kv ?_)
        clear hz34
        refine h_zeq (tg := 26) (pc' := 15) rfl rfl rfl ci_1 (fun c43 => absurd c43 (by omega)) (fun c43 => ?_)
        refine h_aload_n (pc' := 16) rfl rfl rfl ?_
        refine h_iload_n (pc' := 17) rfl rfl rfl ?_
        refine h_bipush (pc' := 19) (x := (Int32.ofInt 10)) rfl rfl cb_10 ?_
        refine h_irem (pc' := 20) rfl rfl hz32 ci_10 (by omega) (by omega) (fun z44 hz44 => ?_)
        refine h_call (sp := false) (pc' := 23) (M := [(0, .ref 98), (1, .int z44)]) rfl rfl rfl rfl rfl rfl rfl rfl ?_
        refine h_iload_n (pc' := 1) rfl rfl rfl ?_
        refine h_i2l (pc' := 2) rfl rfl hz44 (fun z45 hz45 => ?_)
        refine h_lconst (pc' := 3) (x := (Int64.ofInt 0)) rfl rfl rfl ?_
        refine h_aload_n (pc' := 4) rfl rfl rfl ?_
        refine h_getI (pc' := 7) (v := s0 98 2) rfl rfl rfl rfl rfl rfl (fun z46 hz46 => ?_)
        have tz46 := tf_98_2 I0
        refine h_iconst (pc' := 8) (x := (Int32.ofInt 1)) rfl rfl rfl ?_
        refine h_isub (pc' := 9) rfl rfl hz46 ci_1 rfl (by omega) (by omega) (fun z47 hz47 => ?_)
        clear hz46
        refine h_i2l (pc' := 10) rfl rfl hz47 (fun z48 hz48 => ?_)
        clear hz47
        refine h_calls (pc' := 13) (M := [(0, .long z45), (2, .long (Int64.ofInt 0)), (4, .long z48)]) rfl rfl rfl rfl rfl rfl ?_
        refine h_lload_n (pc' := 1) rfl rfl rfl ?_
        refine h_lload_n (pc' := 2) rfl rfl rfl ?_
        refine h_lcmp (pc' := 3) rfl rfl hz45 cl_0 (fun z49 hz49 => ?_)
        refine h_zlt (tg := 17) (pc' := 6) rfl rfl rfl rfl (fun c50 => absurd c50 (by omega)) (fun c50 => ?_)
        replace c50 := (h_lcr hz49).2.1 c50
        clear hz49
        refine h_lload_n (pc' := 7) rfl rfl rfl ?_
        refine h_lload (pc' := 9) rfl rfl rfl ?_
        refine h_lcmp (pc' := 10) rfl rfl hz45 hz48 (fun z51 hz51 => ?_)
        refine h_zgt (tg := 17) (pc' := 13) rfl rfl rfl rfl (fun c52 => ?_) (fun c52 => absurd c52 (by omega))
        replace c52 := (h_lcr hz51).2.2.2.1 c52
        clear hz51
        refine h_iconst (pc' := 18) (x := (Int32.ofInt 0)) rfl rfl rfl ?_
        refine h_zret rfl rfl ci_0 (by omega) (h_Kv ?_)
        clear hz45 hz48
        refine h_zret rfl rfl ci_0 (by omega) (h_Kv ?_)
        clear hz44
        refine h_zne (tg := 28) (pc' := 26) rfl rfl rfl ci_0 (fun c53 => absurd (Int.le_antisymm (by omega) (by omega)) c53) (fun c53 => ?_)
        refine h_iconst (pc' := 27) (x := (Int32.ofInt (-1))) rfl rfl rfl ?_
        refine h_iret rfl rfl (h_Kv ?_)
        clear hz32
        refine h_pop (pc' := 700) rfl rfl rfl ?_
        refine h_goto (pc' := 1441) rfl rfl ?_
        exact kk _ I0 (by first | exact d_tape.le j0 (Int.le_antisymm (by omega) (by omega)) (by omega) (fun j => rfl) (fun j => rfl) | (exfalso; omega)) (Int.le_antisymm (by omega) (by omega)) j2 (g_ti.e j3 rfl) (g_SH.e j4 rfl rfl rfl rfl rfl rfl) (Int.le_antisymm (by omega) (by omega))
      · clear hz28
        refine h_iconst (pc' := 13) (x := (Int32.ofInt 1)) rfl rfl rfl ?_
        refine h_goto (pc' := 17) rfl rfl ?_
        refine h_zret rfl rfl ci_1 (by omega) (h_Kv ?_)
        clear hz26
        refine h_zne (tg := 34) (pc' := 32) rfl rfl rfl ci_1 (fun c54 => ?_) (fun c54 => absurd c54 (by omega))
        refine h_aload_n (pc' := 35) rfl rfl rfl ?_
        refine h_getR (pc' := 38) rfl rfl rfl rfl rfl ?_
        refine h_getI (pc' := 41) (v := s0 10 10) rfl rfl rfl rfl rfl rfl (fun z55 hz55 => ?_)
        have tz55 := tf_10_10 I0
        refine h_bipush (pc' := 43) (x := (Int32.ofInt 8)) rfl rfl cb_8 ?_
        refine h_clt (tg := 49) (pc' := 46) rfl rfl rfl hz55 ci_8 (fun c56 => ?_) (fun c56 => ?_)
        · clear hz55
          refine h_aload_n (pc' := 50) rfl rfl rfl ?_
          refine h_getR (pc' := 53) rfl rfl rfl rfl rfl ?_
          refine h_iload_n (pc' := 54) rfl rfl rfl ?_
          refine h_call (sp := false) (pc' := 57) (M := [(0, .ref 10), (1, .int z2)]) rfl rfl rfl rfl rfl rfl rfl rfl ?_
          refine h_aload_n (pc' := 1) rfl rfl rfl ?_
          refine h_getI (pc' := 4) (v := s0 10 10) rfl rfl rfl rfl rfl rfl (fun z57 hz57 => ?_)
          refine h_bipush (pc' := 6) (x := (Int32.ofInt 8)) rfl rfl cb_8 ?_
          refine h_cge (tg := 29) (pc' := 9) rfl rfl rfl hz57 ci_8 (fun c58 => absurd c58 (by omega)) (fun c58 => ?_)
          clear hz57
          refine h_aload_n (pc' := 10) rfl rfl rfl ?_
          refine h_getR (pc' := 13) rfl rfl rfl rfl rfl ?_
          refine h_aload_n (pc' := 14) rfl rfl rfl ?_
          refine h_getI (pc' := 17) (v := s0 10 10) rfl rfl rfl rfl rfl rfl (fun z59 hz59 => ?_)
          refine h_iload_n (pc' := 18) rfl rfl rfl ?_
          refine h_iast (pc' := 19) rfl rfl rfl rfl hz59 (by omega) (by omega) hz2 (h_fgt (E := fun s => s 64 1 = s0 64 1 ∧ s 98 11 = s0 98 11 ∧ s 64 4 = s0 64 4 ∧ s 98 16 = s0 98 16 ∧ s 90 2 = s0 90 2 ∧ s 98 29 = s0 98 29 ∧ s 10 8 = s0 10 8 ∧ s 98 1 = s0 98 1 ∧ s 10 9 = s0 10 9 ∧ s 98 2 = s0 98 2 ∧ s 10 10 = s0 10 10 ∧ s 99 43 = s0 99 43 ∧ s = h_up s0 22 (s0 10 10) (s0 0 (b3 + 1))) _ (in_22 I0 (by omega)) (F0_.up rfl) ⟨rfl, rfl, rfl, rfl, rfl, rfl, rfl, rfl, rfl, rfl, rfl, rfl, rfl⟩ (fun s60 Is60 Fs60 (es60 : s60 64 1 = s0 64 1 ∧ s60 98 11 = s0 98 11 ∧ s60 64 4 = s0 64 4 ∧ s60 98 16 = s0 98 16 ∧ s60 90 2 = s0 90 2 ∧ s60 98 29 = s0 98 29 ∧ s60 10 8 = s0 10 8 ∧ s60 98 1 = s0 98 1 ∧ s60 10 9 = s0 10 9 ∧ s60 98 2 = s0 98 2 ∧ s60 10 10 = s0 10 10 ∧ s60 99 43 = s0 99 43 ∧ s60 = h_up s0 22 (s0 10 10) (s0 0 (b3 + 1))) => ?_))
          have us60 := es60.2.2.2.2.2.2.2.2.2.2.2.2
          have Zs60 : ∀ i, s60 0 i = s0 0 i := fun i => (h_upo us60 rfl i).trans rfl
          clear hz59
          refine h_aload_n (pc' := 20) rfl rfl rfl ?_
          refine h_dup (pc' := 21) rfl rfl rfl ?_
          refine h_getI (pc' := 24) (v := s0 10 10) rfl rfl rfl rfl rfl es60.2.2.2.2.2.2.2.2.2.2.1 (fun z61 hz61 => ?_)
          refine h_iconst (pc' := 25) (x := (Int32.ofInt 1)) rfl rfl rfl ?_
          refine h_iadd (pc' := 26) rfl rfl hz61 ci_1 rfl (by omega) (by omega) (fun z62 hz62 => ?_)
          clear hz61
          refine h_put (pc' := 29) rfl rfl rfl rfl rfl rfl hz62 rfl (h_fgt (E := fun s => s 64 1 = s0 64 1 ∧ s 98 11 = s0 98 11 ∧ s 64 4 = s0 64 4 ∧ s 98 16 = s0 98 16 ∧ s 90 2 = s0 90 2 ∧ s 98 29 = s0 98 29 ∧ s 10 8 = s0 10 8 ∧ s 98 1 = s0 98 1 ∧ s 10 9 = s0 10 9 ∧ s 98 2 = s0 98 2 ∧ s 10 10 = ((s0 10 10) + 1) ∧ s 99 43 = s0 99 43 ∧ s = h_up s60 10 10 ((s0 10 10) + 1)) _ (if_10_10 Is60 (by omega)) (Fs60.up rfl) ⟨es60.1, es60.2.1, es60.2.2.1, es60.2.2.2.1, es60.2.2.2.2.1, es60.2.2.2.2.2.1, es60.2.2.2.2.2.2.1, es60.2.2.2.2.2.2.2.1, es60.2.2.2.2.2.2.2.2.1, es60.2.2.2.2.2.2.2.2.2.1, rfl, es60.2.2.2.2.2.2.2.2.2.2.2.1, rfl⟩ (fun s63 Is63 Fs63 (es63 : s63 64 1 = s0 64 1 ∧ s63 98 11 = s0 98 11 ∧ s63 64 4 = s0 64 4 ∧ s63 98 16 = s0 98 16 ∧ s63 90 2 = s0 90 2 ∧ s63 98 29 = s0 98 29 ∧ s63 10 8 = s0 10 8 ∧ s63 98 1 = s0 98 1 ∧ s63 10 9 = s0 10 9 ∧ s63 98 2 = s0 98 2 ∧ s63 10 10 = ((s0 10 10) + 1) ∧ s63 99 43 = s0 99 43 ∧ s63 = h_up s60 10 10 ((s0 10 10) + 1)) => ?_))
          clear es60
          have us63 := es63.2.2.2.2.2.2.2.2.2.2.2.2
          have Zs63 : ∀ i, s63 0 i = s0 0 i := fun i => (h_upo us63 rfl i).trans (Zs60 i)
          refine h_vret rfl rfl (h_Kn ?_)
          refine h_aload_n (pc' := 58) rfl rfl rfl ?_
          refine h_getR (pc' := 61) rfl rfl rfl rfl rfl ?_
          refine h_getI (pc' := 64) (v := ((s0 10 10) + 1)) rfl rfl rfl rfl rfl es63.2.2.2.2.2.2.2.2.2.2.1 (fun z64 hz64 => ?_)
          refine h_iret rfl rfl (h_Kv ?_)
          clear hz2
          refine h_pop (pc' := 690) rfl rfl rfl ?_
          clear hz64
          refine h_aload_n (pc' := 691) rfl rfl rfl ?_
          refine h_aload_n (pc' := 692) rfl rfl rfl ?_
          refine h_iload_n (pc' := 693) rfl rfl rfl ?_
          refine h_iconst (pc' := 694) (x := (Int32.ofInt 1)) rfl rfl rfl ?_
          refine h_iadd (pc' := 695) rfl rfl hy3 ci_1 rfl (by omega) (by omega) (fun z65 hz65 => ?_)
          refine h_iald (pc' := 696) (v := s0 0 (b3 + 1)) rfl rfl rfl hz65 (by omega) (by omega) (Zs63 _) (fun z66 hz66 => ?_)
          have tz66 := h_rgv hz66
          clear hz65
          refine h_call (sp := false) (pc' := 699) (M := [(0, .ref 98), (1, .int z66)]) rfl rfl rfl rfl rfl rfl rfl rfl ?_
          refine h_iload_n (pc' := 1) rfl rfl rfl ?_
          refine h_zlt (tg := 26) (pc' := 4) rfl rfl rfl hz66 (fun c67 => absurd c67 (by omega)) (fun c67 => ?_)
          refine h_aload_n (pc' := 5) rfl rfl rfl ?_
          refine h_iload_n (pc' := 6) rfl rfl rfl ?_
          refine h_bipush (pc' := 8) (x := (Int32.ofInt 10)) rfl rfl cb_10 ?_
          refine h_idiv (pc' := 9) rfl rfl hz66 ci_10 (by omega) (by omega) (fun z68 hz68 => ?_)
          refine h_call (sp := false) (pc' := 12) (M := [(0, .ref 98), (1, .int z68)]) rfl rfl rfl rfl rfl rfl rfl rfl ?_
          refine h_iload_n (pc' := 1) rfl rfl rfl ?_
          refine h_i2l (pc' := 2) rfl rfl hz68 (fun z69 hz69 => ?_)
          refine h_lconst (pc' := 3) (x := (Int64.ofInt 0)) rfl rfl rfl ?_
          refine h_aload_n (pc' := 4) rfl rfl rfl ?_
          refine h_getI (pc' := 7) (v := s0 98 1) rfl rfl rfl rfl rfl es63.2.2.2.2.2.2.2.1 (fun z70 hz70 => ?_)
          have tz70 := tf_98_1 I0
          refine h_iconst (pc' := 8) (x := (Int32.ofInt 1)) rfl rfl rfl ?_
          refine h_isub (pc' := 9) rfl rfl hz70 ci_1 rfl (by omega) (by omega) (fun z71 hz71 => ?_)
          clear hz70
          refine h_i2l (pc' := 10) rfl rfl hz71 (fun z72 hz72 => ?_)
          clear hz71
          refine h_calls (pc' := 13) (M := [(0, .long z69), (2, .long (Int64.ofInt 0)), (4, .long z72)]) rfl rfl rfl rfl rfl rfl ?_
          refine h_lload_n (pc' := 1) rfl rfl rfl ?_
          refine h_lload_n (pc' := 2) rfl rfl rfl ?_
          refine h_lcmp (pc' := 3) rfl rfl hz69 cl_0 (fun z73 hz73 => ?_)
          refine h_zlt (tg := 17) (pc' := 6) rfl rfl rfl rfl (fun c74 => absurd c74 (by omega)) (fun c74 => ?_)
          replace c74 := (h_lcr hz73).2.1 c74
          clear hz73
          refine h_lload_n (pc' := 7) rfl rfl rfl ?_
          refine h_lload (pc' := 9) rfl rfl rfl ?_
          refine h_lcmp (pc' := 10) rfl rfl hz69 hz72 (fun z75 hz75 => ?_)
          refine h_zgt (tg := 17) (pc' := 13) rfl rfl rfl rfl (fun c76 => absurd c76 (by omega)) (fun c76 => ?_)
          replace c76 := (h_lcr hz75).2.2.1 c76
          clear hz75
          refine h_iconst (pc' := 14) (x := (Int32.ofInt 1)) rfl rfl rfl ?_
          refine h_goto (pc' := 18) rfl rfl ?_
          refine h_zret rfl rfl ci_1 (by omega) (h_Kv ?_)
          clear hz69 hz72
          refine h_zret rfl rfl ci_1 (by omega) (h_Kv ?_)
          clear hz68
          refine h_zeq (tg := 26) (pc' := 15) rfl rfl rfl ci_1 (fun c77 => absurd c77 (by omega)) (fun c77 => ?_)
          refine h_aload_n (pc' := 16) rfl rfl rfl ?_
          refine h_iload_n (pc' := 17) rfl rfl rfl ?_
          refine h_bipush (pc' := 19) (x := (Int32.ofInt 10)) rfl rfl cb_10 ?_
          refine h_irem (pc' := 20) rfl rfl hz66 ci_10 (by omega) (by omega) (fun z78 hz78 => ?_)
          refine h_call (sp := false) (pc' := 23) (M := [(0, .ref 98), (1, .int z78)]) rfl rfl rfl rfl rfl rfl rfl rfl ?_
          refine h_iload_n (pc' := 1) rfl rfl rfl ?_
          refine h_i2l (pc' := 2) rfl rfl hz78 (fun z79 hz79 => ?_)
          refine h_lconst (pc' := 3) (x := (Int64.ofInt 0)) rfl rfl rfl ?_
          refine h_aload_n (pc' := 4) rfl rfl rfl ?_
          refine h_getI (pc' := 7) (v := s0 98 2) rfl rfl rfl rfl rfl es63.2.2.2.2.2.2.2.2.2.1 (fun z80 hz80 => ?_)
          have tz80 := tf_98_2 I0
          refine h_iconst (pc' := 8) (x := (Int32.ofInt 1)) rfl rfl rfl ?_
          refine h_isub (pc' := 9) rfl rfl hz80 ci_1 rfl (by omega) (by omega) (fun z81 hz81 => ?_)
          clear hz80
          refine h_i2l (pc' := 10) rfl rfl hz81 (fun z82 hz82 => ?_)
          clear hz81
          refine h_calls (pc' := 13) (M := [(0, .long z79), (2, .long (Int64.ofInt 0)), (4, .long z82)]) rfl rfl rfl rfl rfl rfl ?_
          refine h_lload_n (pc' := 1) rfl rfl rfl ?_
          refine h_lload_n (pc' := 2) rfl rfl rfl ?_
          refine h_lcmp (pc' := 3) rfl rfl hz79 cl_0 (fun z83 hz83 => ?_)
          refine h_zlt (tg := 17) (pc' := 6) rfl rfl rfl rfl (fun c84 => absurd c84 (by omega)) (fun c84 => ?_)
          replace c84 := (h_lcr hz83).2.1 c84
          clear hz83
          refine h_lload_n (pc' := 7) rfl rfl rfl ?_
          refine h_lload (pc' := 9) rfl rfl rfl ?_
          refine h_lcmp (pc' := 10) rfl rfl hz79 hz82 (fun z85 hz85 => ?_)
          refine h_zgt (tg := 17) (pc' := 13) rfl rfl rfl rfl (fun c86 => absurd c86 (by omega)) (fun c86 => ?_)
          replace c86 := (h_lcr hz85).2.2.1 c86
          clear hz85
          refine h_iconst (pc' := 14) (x := (Int32.ofInt 1)) rfl rfl rfl ?_
          refine h_goto (pc' := 18) rfl rfl ?_
          refine h_zret rfl rfl ci_1 (by omega) (h_Kv ?_)
          clear hz79 hz82
          refine h_zret rfl rfl ci_1 (by omega) (h_Kv ?_)
          clear hz78
          refine h_zne (tg := 28) (pc' := 26) rfl rfl rfl ci_1 (fun c87 => ?_) (fun c87 => absurd c87 (by omega))
          refine h_aload_n (pc' := 29) rfl rfl rfl ?_
          refine h_getR (pc' := 32) rfl rfl rfl rfl rfl ?_
          refine h_bipush (pc' := 34) (x := (Int32.ofInt 43)) rfl rfl cb_43 ?_
          refine h_iald (pc' := 35) (v := s0 99 43) rfl rfl rfl ci_43 (by omega) (by omega) es63.2.2.2.2.2.2.2.2.2.2.2.1 (fun z88 hz88 => ?_)
          have tz88 := ty_99_10 I0 43 (by omega)
          refine h_bipush (pc' := 37) (x := (Int32.ofInt 8)) rfl rfl cb_8 ?_
          refine h_cne (tg := 43) (pc' := 40) rfl rfl rfl hz88 ci_8 (fun c89 => ?_) (fun c89 => absurd c89 (by omega))
          clear hz88
          refine h_aload_n (pc' := 44) rfl rfl rfl ?_
          refine h_getR (pc' := 47) rfl rfl rfl rfl rfl ?_
          refine h_bipush (pc' := 49) (x := (Int32.ofInt 35)) rfl rfl cb_35 ?_
          refine h_aload_n (pc' := 50) rfl rfl rfl ?_
          refine h_getR (pc' := 53) rfl rfl rfl rfl rfl ?_
          refine h_bipush (pc' := 55) (x := (Int32.ofInt 43)) rfl rfl cb_43 ?_
          refine h_iald (pc' := 56) (v := s0 99 43) rfl rfl rfl ci_43 (by omega) (by omega) es63.2.2.2.2.2.2.2.2.2.2.2.1 (fun z90 hz90 => ?_)
          refine h_iadd (pc' := 57) rfl rfl ci_35 hz90 rfl (by omega) (by omega) (fun z91 hz91 => ?_)
          clear hz90
          refine h_iload_n (pc' := 58) rfl rfl rfl ?_
          refine h_iast (pc' := 59) rfl rfl rfl rfl hz91 (by omega) (by omega) hz66 (h_fgt (E := fun s => s 64 1 = s0 64 1 ∧ s 98 11 = s0 98 11 ∧ s 64 4 = s0 64 4 ∧ s 98 16 = s0 98 16 ∧ s 90 2 = s0 90 2 ∧ s 98 29 = s0 98 29 ∧ s 10 8 = s0 10 8 ∧ s 98 1 = s0 98 1 ∧ s 10 9 = s0 10 9 ∧ s 98 2 = s0 98 2 ∧ s 10 10 = ((s0 10 10) + 1) ∧ s 99 43 = s0 99 43 ∧ s = h_up s63 99 (35 + (s0 99 43)) (s0 0 (b3 + 1))) _ (ip_99_9 Is63 (by omega) (by omega)) (Fs63.up rfl) ⟨es63.1, es63.2.1, es63.2.2.1, es63.2.2.2.1, es63.2.2.2.2.1, es63.2.2.2.2.2.1, es63.2.2.2.2.2.2.1, es63.2.2.2.2.2.2.2.1, es63.2.2.2.2.2.2.2.2.1, es63.2.2.2.2.2.2.2.2.2.1, es63.2.2.2.2.2.2.2.2.2.2.1, h_up_n2 (by omega) es63.2.2.2.2.2.2.2.2.2.2.2.1, rfl⟩ (fun s92 Is92 Fs92 (es92 : s92 64 1 = s0 64 1 ∧ s92 98 11 = s0 98 11 ∧ s92 64 4 = s0 64 4 ∧ s92 98 16 = s0 98 16 ∧ s92 90 2 = s0 90 2 ∧ s92 98 29 = s0 98 29 ∧ s92 10 8 = s0 10 8 ∧ s92 98 1 = s0 98 1 ∧ s92 10 9 = s0 10 9 ∧ s92 98 2 = s0 98 2 ∧ s92 10 10 = ((s0 10 10) + 1) ∧ s92 99 43 = s0 99 43 ∧ s92 = h_up s63 99 (35 + (s0 99 43)) (s0 0 (b3 + 1))) => ?_))
          clear es63
          have us92 := es92.2.2.2.2.2.2.2.2.2.2.2.2
          have Zs92 : ∀ i, s92 0 i = s0 0 i := fun i => (h_upo us92 rfl i).trans (Zs63 i)
          clear hz91
          refine h_aload_n (pc' := 60) rfl rfl rfl ?_
          refine h_getR (pc' := 63) rfl rfl rfl rfl rfl ?_
          refine h_bipush (pc' := 65) (x := (Int32.ofInt 43)) rfl rfl cb_43 ?_
          refine h_dup2 (pc' := 66) rfl rfl rfl ?_
          refine h_iald (pc' := 67) (v := s0 99 43) rfl rfl rfl ci_43 (by omega) (by omega) es92.2.2.2.2.2.2.2.2.2.2.2.1 (fun z93 hz93 => ?_)
          refine h_iconst (pc' := 68) (x := (Int32.ofInt 1)) rfl rfl rfl ?_
          refine h_iadd (pc' := 69) rfl rfl hz93 ci_1 rfl (by omega) (by omega) (fun z94 hz94 => ?_)
          clear hz93
          refine h_iast (pc' := 70) rfl rfl rfl rfl ci_43 (by omega) (by omega) hz94 (h_fgt (E := fun s => s 64 1 = s0 64 1 ∧ s 98 11 = s0 98 11 ∧ s 64 4 = s0 64 4 ∧ s 98 16 = s0 98 16 ∧ s 90 2 = s0 90 2 ∧ s 98 29 = s0 98 29 ∧ s 10 8 = s0 10 8 ∧ s 98 1 = s0 98 1 ∧ s 10 9 = s0 10 9 ∧ s 98 2 = s0 98 2 ∧ s 10 10 = ((s0 10 10) + 1) ∧ s 99 43 = ((s0 99 43) + 1) ∧ s = h_up s92 99 43 ((s0 99 43) + 1)) _ (ip_99_10 Is92 (by omega) (by omega)) (Fs92.up rfl) ⟨es92.1, es92.2.1, es92.2.2.1, es92.2.2.2.1, es92.2.2.2.2.1, es92.2.2.2.2.2.1, es92.2.2.2.2.2.2.1, es92.2.2.2.2.2.2.2.1, es92.2.2.2.2.2.2.2.2.1, es92.2.2.2.2.2.2.2.2.2.1, es92.2.2.2.2.2.2.2.2.2.2.1, rfl, rfl⟩ (fun s95 Is95 Fs95 (es95 : s95 64 1 = s0 64 1 ∧ s95 98 11 = s0 98 11 ∧ s95 64 4 = s0 64 4 ∧ s95 98 16 = s0 98 16 ∧ s95 90 2 = s0 90 2 ∧ s95 98 29 = s0 98 29 ∧ s95 10 8 = s0 10 8 ∧ s95 98 1 = s0 98 1 ∧ s95 10 9 = s0 10 9 ∧ s95 98 2 = s0 98 2 ∧ s95 10 10 = ((s0 10 10) + 1) ∧ s95 99 43 = ((s0 99 43) + 1) ∧ s95 = h_up s92 99 43 ((s0 99 43) + 1)) => ?_))
          clear es92
          have us95 := es95.2.2.2.2.2.2.2.2.2.2.2.2
          have Zs95 : ∀ i, s95 0 i = s0 0 i := fun i => (h_upo us95 rfl i).trans (Zs92 i)
          refine h_aload_n (pc' := 71) rfl rfl rfl ?_
          refine h_getR (pc' := 74) rfl rfl rfl rfl rfl ?_
          refine h_bipush (pc' := 76) (x := (Int32.ofInt 43)) rfl rfl cb_43 ?_
          refine h_iald (pc' := 77) (v := ((s0 99 43) + 1)) rfl rfl rfl ci_43 (by omega) (by omega) es95.2.2.2.2.2.2.2.2.2.2.2.1 (fun z96 hz96 => ?_)
          refine h_iret rfl rfl (h_Kv ?_)
          clear hz66
          refine h_pop (pc' := 700) rfl rfl rfl ?_
          clear hz96
          refine h_goto (pc' := 1441) rfl rfl ?_
          exact kk _ Is95 (by first | exact d_tape.le j0 (Int.le_antisymm (by omega) (by omega)) (by omega) (fun j => (h_upo us95 rfl j).trans ((h_upo us92 rfl j).trans ((h_upo us63 rfl j).trans ((h_upo us60 rfl j))))) (fun j => (h_upo us95 rfl j).trans ((h_upo us92 rfl j).trans ((h_upo us63 rfl j).trans ((h_upo us60 rfl j))))) | (exfalso; omega)) (Int.le_antisymm (by omega) (by omega)) (c_R.act j2 I0 (by omega) (by omega) (by omega) (by omega) (Int.le_antisymm (by omega) (by omega)) (Int.le_antisymm (by omega) (by omega)) (Int.le_antisymm (by omega) (by omega)) (Int.le_antisymm (by omega) (by omega)) (fun j => (h_upo us95 rfl j).trans ((h_upo us92 rfl j).trans ((h_upo us63 rfl j).trans ((h_upi us60 j))))) (Int.le_antisymm (by omega) (by omega)) (fun j => (h_upi us95 j).trans (congrArg (fun z => if j = 43 then ((s0 99 43) + 1) else z) ((h_upi us92 j).trans (congrArg (fun z => if j = (35 + (s0 99 43)) then (s0 0 (b3 + 1)) else z) ((h_upo us63 rfl j).trans ((h_upo us60 rfl j))))))) (Int.le_antisymm (by omega) (by omega)) (Int.le_antisymm (by omega) (by omega)) (fun p j n0 n1 n2 => (h_upq us95 n2 j).trans ((h_upq us92 n2 j).trans ((h_upq us63 n0 j).trans ((h_upq us60 n1 j)))))) (g_ti.e j3 ((h_upg us95 rfl).trans ((h_upg us92 rfl).trans ((h_upg us63 rfl).trans (h_upg us60 rfl))))) (g_SH.e j4 ((h_upg us95 rfl).trans ((h_upg us92 rfl).trans ((h_upg us63 rfl).trans (h_upg us60 rfl)))) ((h_upg us95 rfl).trans ((h_upg us92 rfl).trans ((h_upg us63 rfl).trans (h_upg us60 rfl)))) ((h_upg us95 rfl).trans ((h_upg us92 rfl).trans ((h_upg us63 rfl).trans (h_upg us60 rfl)))) ((h_upg us95 rfl).trans ((h_upg us92 rfl).trans ((h_upg us63 rfl).trans (h_upg us60 rfl)))) ((h_upg us95 rfl).trans ((h_upg us92 rfl).trans ((h_upg us63 rfl).trans (h_upg us60 rfl)))) ((h_upg us95 rfl).trans ((h_upg us92 rfl).trans ((h_upg us63 rfl).trans (h_upg us60 rfl))))) (Int.le_antisymm (by omega) (by omega))
        · clear hz55
          refine h_bipush (pc' := 48) (x := (Int32.ofInt (-3))) rfl rfl cb_m3 ?_
          refine h_iret rfl rfl (h_Kv ?_)
          clear hz2
          refine h_pop (pc' := 690) rfl rfl rfl ?_
          refine h_aload_n (pc' := 691) rfl rfl rfl ?_
          refine h_aload_n (pc' := 692) rfl rfl rfl ?_
          refine h_iload_n (pc' := 693) rfl rfl rfl ?_
          refine h_iconst (pc' := 694) (x := (Int32.ofInt 1)) rfl rfl rfl ?_
          refine h_iadd (pc' := 695) rfl rfl hy3 ci_1 rfl (by omega) (by omega) (fun z97 hz97 => ?_)
          refine h_iald (pc' := 696) (v := s0 0 (b3 + 1)) rfl rfl rfl hz97 (by omega) (by omega) rfl (fun z98 hz98 => ?_)
          have tz98 := h_rgv hz98
          clear hz97
          refine h_call (sp := false) (pc' := 699) (M := [(0, .ref 98), (1, .int z98)]) rfl rfl rfl rfl rfl rfl rfl rfl ?_
          refine h_iload_n (pc' := 1) rfl rfl rfl ?_
          refine h_zlt (tg := 26) (pc' := 4) rfl rfl rfl hz98 (fun c99 => absurd c99 (by omega)) (fun c99 => ?_)
          refine h_aload_n (pc' := 5) rfl rfl rfl ?_
          refine h_iload_n (pc' := 6) rfl rfl rfl ?_
          refine h_bipush (pc' := 8) (x := (Int32.ofInt 10)) rfl rfl cb_10 ?_
          refine h_idiv (pc' := 9) rfl rfl hz98 ci_10 (by omega) (by omega) (fun z100 hz100 => ?_)
          refine h_call (sp := false) (pc' := 12) (M := [(0, .ref 98), (1, .int z100)]) rfl rfl rfl rfl rfl rfl rfl rfl ?_
          refine h_iload_n (pc' := 1) rfl rfl rfl ?_
          refine h_i2l (pc' := 2) rfl rfl hz100 (fun z101 hz101 => ?_)
          refine h_lconst (pc' := 3) (x := (Int64.ofInt 0)) rfl rfl rfl ?_
          refine h_aload_n (pc' := 4) rfl rfl rfl ?_
          refine h_getI (pc' := 7) (v := s0 98 1) rfl rfl rfl rfl rfl rfl (fun z102 hz102 => ?_)
          have tz102 := tf_98_1 I0
          refine h_iconst (pc' := 8) (x := (Int32.ofInt 1)) rfl rfl rfl ?_
          refine h_isub (pc' := 9) rfl rfl hz102 ci_1 rfl (by omega) (by omega) (fun z103 hz103 => ?_)
          clear hz102
          refine h_i2l (pc' := 10) rfl rfl hz103 (fun z104 hz104 => ?_)
          clear hz103
          refine h_calls (pc' := 13) (M := [(0, .long z101), (2, .long (Int64.ofInt 0)), (4, .long z104)]) rfl rfl rfl rfl rfl rfl ?_
          refine h_lload_n (pc' := 1) rfl rfl rfl ?_
          refine h_lload_n (pc' := 2) rfl rfl rfl ?_
          refine h_lcmp (pc' := 3) rfl rfl hz101 cl_0 (fun z105 hz105 => ?_)
          refine h_zlt (tg := 17) (pc' := 6) rfl rfl rfl rfl (fun c106 => absurd c106 (by omega)) (fun c106 => ?_)
          replace c106 := (h_lcr hz105).2.1 c106
          clear hz105
          refine h_lload_n (pc' := 7) rfl rfl rfl ?_
          refine h_lload (pc' := 9) rfl rfl rfl ?_
          refine h_lcmp (pc' := 10) rfl rfl hz101 hz104 (fun z107 hz107 => ?_)
          refine h_zgt (tg := 17) (pc' := 13) rfl rfl rfl rfl (fun c108 => absurd c108 (by omega)) (fun c108 => ?_)
          replace c108 := (h_lcr hz107).2.2.1 c108
          clear hz107
          refine h_iconst (pc' := 14) (x := (Int32.ofInt 1)) rfl rfl rfl ?_
          refine h_goto (pc' := 18) rfl rfl ?_
          refine h_zret rfl rfl ci_1 (by omega) (h_Kv ?_)
          clear hz101 hz104
          refine h_zret rfl rfl ci_1 (by omega) (h_Kv ?_)
          clear hz100
          refine h_zeq (tg := 26) (pc' := 15) rfl rfl rfl ci_1 (fun c109 => absurd c109 (by omega)) (fun c109 => ?_)
          refine h_aload_n (pc' := 16) rfl rfl rfl ?_
          refine h_iload_n (pc' := 17) rfl rfl rfl ?_
          refine h_bipush (pc' := 19) (x := (Int32.ofInt 10)) rfl rfl cb_10 ?_
          refine h_irem (pc' := 20) rfl rfl hz98 ci_10 (by omega) (by omega) (fun z110 hz110 => ?_)
          refine h_call (sp := false) (pc' := 23) (M := [(0, .ref 98), (1, .int z110)]) rfl rfl rfl rfl rfl rfl rfl rfl ?_
          refine h_iload_n (pc' := 1) rfl rfl rfl ?_
          refine h_i2l (pc' := 2) rfl rfl hz110 (fun z111 hz111 => ?_)
          refine h_lconst (pc' := 3) (x := (Int64.ofInt 0)) rfl rfl rfl ?_
          refine h_aload_n (pc' := 4) rfl rfl rfl ?_
          refine h_getI (pc' := 7) (v := s0 98 2) rfl rfl rfl rfl rfl rfl (fun z112 hz112 => ?_)
          have tz112 := tf_98_2 I0
          refine h_iconst (pc' := 8) (x := (Int32.ofInt 1)) rfl rfl rfl ?_
          refine h_isub (pc' := 9) rfl rfl hz112 ci_1 rfl (by omega) (by omega) (fun z113 hz113 => ?_)
          clear hz112
          refine h_i2l (pc' := 10) rfl rfl hz113 (fun z114 hz114 => ?_)
          clear hz113
          refine h_calls (pc' := 13) (M := [(0, .long z111), (2, .long (Int64.ofInt 0)), (4, .long z114)]) rfl rfl rfl rfl rfl rfl ?_
          refine h_lload_n (pc' := 1) rfl rfl rfl ?_
          refine h_lload_n (pc' := 2) rfl rfl rfl ?_
          refine h_lcmp (pc' := 3) rfl rfl hz111 cl_0 (fun z115 hz115 => ?_)
          refine h_zlt (tg := 17) (pc' := 6) rfl rfl rfl rfl (fun c116 => absurd c116 (by omega)) (fun c116 => ?_)
          replace c116 := (h_lcr hz115).2.1 c116
          clear hz115
          refine h_lload_n (pc' := 7) rfl rfl rfl ?_
          refine h_lload (pc' := 9) rfl rfl rfl ?_
          refine h_lcmp (pc' := 10) rfl rfl hz111 hz114 (fun z117 hz117 => ?_)
          refine h_zgt (tg := 17) (pc' := 13) rfl rfl rfl rfl (fun c118 => absurd c118 (by omega)) (fun c118 => ?_)
          replace c118 := (h_lcr hz117).2.2.1 c118
          clear hz117
          refine h_iconst (pc' := 14) (x := (Int32.ofInt 1)) rfl rfl rfl ?_
          refine h_goto (pc' := 18) rfl rfl ?_
          refine h_zret rfl rfl ci_1 (by omega) (h_Kv ?_)
          clear hz111 hz114
          refine h_zret rfl rfl ci_1 (by omega) (h_Kv ?_)
          clear hz110
          refine h_zne (tg := 28) (pc' := 26) rfl rfl rfl ci_1 (fun c119 => ?_) (fun c119 => absurd c119 (by omega))
          refine h_aload_n (pc' := 29) rfl rfl rfl ?_
          refine h_getR (pc' := 32) rfl rfl rfl rfl rfl ?_
          refine h_bipush (pc' := 34) (x := (Int32.ofInt 43)) rfl rfl cb_43 ?_
          refine h_iald (pc' := 35) (v := s0 99 43) rfl rfl rfl ci_43 (by omega) (by omega) rfl (fun z120 hz120 => ?_)
          have tz120 := ty_99_10 I0 43 (by omega)
          refine h_bipush (pc' := 37) (x := (Int32.ofInt 8)) rfl rfl cb_8 ?_
          refine h_cne (tg := 43) (pc' := 40) rfl rfl rfl hz120 ci_8 (fun c121 => absurd (Int.le_antisymm (by omega) (by omega)) c121) (fun c121 => ?_)
          clear hz120
          refine h_bipush (pc' := 42) (x := (Int32.ofInt (-3))) rfl rfl cb_m3 ?_
          refine h_iret rfl rfl (h_Kv ?_)
          clear hz98
          refine h_pop (pc' := 700) rfl rfl rfl ?_
          refine h_goto (pc' := 1441) rfl rfl ?_
          exact kk _ I0 (by first | exact d_tape.le j0 (Int.le_antisymm (by omega) (by omega)) (by omega) (fun j => rfl) (fun j => rfl) | (exfalso; omega)) (Int.le_antisymm (by omega) (by omega)) j2 (g_ti.e j3 rfl) (g_SH.e j4 rfl rfl rfl rfl rfl rfl) (Int.le_antisymm (by omega) (by omega))
