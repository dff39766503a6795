set_option maxHeartbeats 100000000 in
theorem g_case_373 {ns : Nat} (hns : ns ≤ 320) (s0 : h_S) (I0 : h_I s0) (j0 : d_tape s0 s0) (j1 : s0 64 4 = s0 98 16) (j2 : c_R false s0) (y3 : Int32) (b3 : Int) (hy3 : y3.toInt = b3) (hr : 0 ≤ b3 ∧ b3 + 5 ≤ ns) {Q : Option Value → h_S → Prop} (kk : ∀ τ, h_I τ → (d_tape τ τ) → (τ 64 4 = τ 98 16) → (c_R false τ) → h_T g_P (g_Y ns) 225 1441 [(0, .ref 0), (1, .ref 9), (2, .ref 98), (3, .int y3)] [] τ Q) : h_T g_P (g_Y ns) 225 373 [(0, .ref 0), (1, .ref 9), (2, .ref 98), (3, .int y3)] [] s0 Q := by
  have F0_ : h_F (fun _ _ => true) s0 s0 := h_F.rf
  have j0_ := j0.2
  have i0 := tf_64_1 I0
  have i1 := tf_98_11 I0
  have i2 := tf_64_4 I0
  have i3 := tf_98_16 I0
  have i4 := tf_13_2 I0
  have i6 := tf_16_2 I0
  have j2_ := j2.sz
  have y18 := ty_99_3 I0 18 (by omega)
  have y25 := ty_99_5 I0 25 (by omega)
  refine h_aload_n (pc' := 374) rfl rfl rfl ?_
  refine h_aload_n (pc' := 375) rfl rfl rfl ?_
  refine h_iload_n (pc' := 376) rfl rfl rfl ?_
  refine h_iconst (pc' := 377) (x := (Int32.ofInt 1)) rfl rfl rfl ?_
  refine h_iadd (pc' := 378) rfl rfl hy3 ci_1 rfl (by omega) (by omega) (fun z1 hz1 => ?_)
  refine h_iald (pc' := 379) (v := s0 0 (b3 + 1)) rfl rfl rfl hz1 (by omega) (by omega) rfl (fun z2 hz2 => ?_)
  have tz2 := h_rgv hz2
  clear hz1
  refine h_aload_n (pc' := 380) rfl rfl rfl ?_
  refine h_iload_n (pc' := 381) rfl rfl rfl ?_
  refine h_iconst (pc' := 382) (x := (Int32.ofInt 2)) rfl rfl rfl ?_
  refine h_iadd (pc' := 383) rfl rfl hy3 ci_2 rfl (by omega) (by omega) (fun z3 hz3 => ?_)
  refine h_iald (pc' := 384) (v := s0 0 (b3 + 2)) rfl rfl rfl hz3 (by omega) (by omega) rfl (fun z4 hz4 => ?_)
  have tz4 := h_rgv hz4
  clear hz3
  refine h_call (sp := false) (pc' := 387) (M := [(0, .ref 9), (1, .int z2), (2, .int z4)]) rfl rfl rfl rfl rfl rfl rfl rfl ?_
  refine h_iload_n (pc' := 1) rfl rfl rfl ?_
  refine h_calls (pc' := 4) (M := [(0, .int z2)]) rfl rfl rfl rfl rfl rfl ?_
  refine h_iload_n (pc' := 1) rfl rfl rfl ?_
  refine h_zeq (tg := 9) (pc' := 4) rfl rfl rfl hz2 (fun c5 => ?_) (fun c5 => ?_)
  · refine h_iconst (pc' := 10) (x := (Int32.ofInt 1)) rfl rfl rfl ?_
    refine h_goto (pc' := 14) rfl rfl ?_
    refine h_zret rfl rfl ci_1 (by omega) (h_Kv ?_)
    refine h_zne (tg := 9) (pc' := 7) rfl rfl rfl ci_1 (fun c6 => ?_) (fun c6 => absurd c6 (by omega))
    refine h_aload_n (pc' := 10) rfl rfl rfl ?_
    refine h_getR (pc' := 13) rfl rfl rfl rfl rfl ?_
    refine h_iload_n (pc' := 14) rfl rfl rfl ?_
    refine h_call (sp := false) (pc' := 17) (M := [(0, .ref 10), (1, .int z2)]) rfl rfl rfl rfl rfl rfl rfl rfl ?_
    refine h_iload_n (pc' := 1) rfl rfl rfl ?_
    refine h_zne (tg := 11) (pc' := 4) rfl rfl rfl hz2 (fun c7 => absurd (Int.le_antisymm (by omega) (by omega)) c7) (fun c7 => ?_)
    refine h_aload_n (pc' := 5) rfl rfl rfl ?_
    refine h_getR (pc' := 8) rfl rfl rfl rfl rfl ?_
    refine h_goto (pc' := 15) rfl rfl ?_
    refine h_aret rfl rfl (h_Kv ?_)
    refine h_astore_n (pc' := 18) (M := [(3, .ref 13), (0, .ref 9), (1, .int z2), (2, .int z4)]) rfl rfl rfl rfl ?_
    refine h_aload_n (pc' := 19) rfl rfl rfl ?_
    refine h_iload_n (pc' := 20) rfl rfl rfl ?_
    refine h_call (sp := false) (pc' := 23) (M := [(0, .ref 13), (1, .int z4)]) rfl rfl rfl rfl rfl rfl rfl rfl ?_
    refine h_iload_n (pc' := 1) rfl rfl rfl ?_
    refine h_zlt (tg := 16) (pc' := 4) rfl rfl rfl hz4 (fun c8 => ?_) (fun c8 => ?_)
    · refine h_iconst (pc' := 17) (x := (Int32.ofInt 0)) rfl rfl rfl ?_
      refine h_zret rfl rfl ci_0 (by omega) (h_Kv ?_)
      refine h_zeq (tg := 45) (pc' := 26) rfl rfl rfl ci_0 (fun c9 => ?_) (fun c9 => absurd (Int.le_antisymm (by omega) (by omega)) c9)
      refine h_iconst (pc' := 46) (x := (Int32.ofInt (-1))) rfl rfl rfl ?_
      refine h_iret rfl rfl (h_Kv ?_)
      clear hz2 hz4
      refine h_aload_n (pc' := 388) rfl rfl rfl ?_
      refine h_aload_n (pc' := 389) rfl rfl rfl ?_
      refine h_iload_n (pc' := 390) rfl rfl rfl ?_
      refine h_iconst (pc' := 391) (x := (Int32.ofInt 1)) rfl rfl rfl ?_
      refine h_iadd (pc' := 392) rfl rfl hy3 ci_1 rfl (by omega) (by omega) (fun z10 hz10 => ?_)
      refine h_iald (pc' := 393) (v := s0 0 (b3 + 1)) rfl rfl rfl hz10 (by omega) (by omega) rfl (fun z11 hz11 => ?_)
      have tz11 := h_rgv hz11
      clear hz10
      refine h_aload_n (pc' := 394) rfl rfl rfl ?_
      refine h_iload_n (pc' := 395) rfl rfl rfl ?_
      refine h_iconst (pc' := 396) (x := (Int32.ofInt 2)) rfl rfl rfl ?_
      refine h_iadd (pc' := 397) rfl rfl hy3 ci_2 rfl (by omega) (by omega) (fun z12 hz12 => ?_)
      refine h_iald (pc' := 398) (v := s0 0 (b3 + 2)) rfl rfl rfl hz12 (by omega) (by omega) rfl (fun z13 hz13 => ?_)
      have tz13 := h_rgv hz13
      clear hz12
      refine h_call (sp := false) (pc' := 401) (M := [(0, .ref 98), (1, .int z11), (2, .int z13)]) rfl rfl rfl rfl rfl rfl rfl rfl ?_
      refine h_aload_n (pc' := 1) rfl rfl rfl ?_
      refine h_iload_n (pc' := 2) rfl rfl rfl ?_
      refine h_iload_n (pc' := 3) rfl rfl rfl ?_
      refine h_call (sp := false) (pc' := 6) (M := [(0, .ref 98), (1, .int z11), (2, .int z13)]) rfl rfl rfl rfl rfl rfl rfl rfl ?_
      refine h_iload_n (pc' := 1) rfl rfl rfl ?_
      refine h_i2l (pc' := 2) rfl rfl hz11 (fun z14 hz14 => ?_)
      refine h_lconst (pc' := 3) (x := (Int64.ofInt 0)) rfl rfl rfl ?_
      refine h_lconst (pc' := 4) (x := (Int64.ofInt 1)) rfl rfl rfl ?_
      refine h_calls (pc' := 7) (M := [(0, .long z14), (2, .long (Int64.ofInt 0)), (4, .long (Int64.ofInt 1))]) rfl rfl rfl rfl rfl rfl ?_
      refine h_lload_n (pc' := 1) rfl rfl rfl ?_
      refine h_lload_n (pc' := 2) rfl rfl rfl ?_
      refine h_lcmp (pc' := 3) rfl rfl hz14 cl_0 (fun z15 hz15 => ?_)
      refine h_zlt (tg := 17) (pc' := 6) rfl rfl rfl rfl (fun c16 => absurd c16 (by omega)) (fun c16 => ?_)
      replace c16 := (h_lcr hz15).2.1 c16
      clear hz15
      refine h_lload_n (pc' := 7) rfl rfl rfl ?_
      refine h_lload (pc' := 9) rfl rfl rfl ?_
      refine h_lcmp (pc' := 10) rfl rfl hz14 cl_1 (fun z17 hz17 => ?_)
      refine h_zgt (tg := 17) (pc' := 13) rfl rfl rfl rfl (fun c18 => absurd c18 (by omega)) (fun c18 => ?_)
      replace c18 := (h_lcr hz17).2.2.1 c18
      clear hz17
      refine h_iconst (pc' := 14) (x := (Int32.ofInt 1)) rfl rfl rfl ?_
      refine h_goto (pc' := 18) rfl rfl ?_
      refine h_zret rfl rfl ci_1 (by omega) (h_Kv ?_)
      clear hz14
      refine h_zeq (tg := 38) (pc' := 10) rfl rfl rfl ci_1 (fun c19 => absurd c19 (by omega)) (fun c19 => ?_)
      refine h_iload_n (pc' := 11) rfl rfl rfl ?_
      refine h_i2l (pc' := 12) rfl rfl hz13 (fun z20 hz20 => ?_)
      refine h_lconst (pc' := 13) (x := (Int64.ofInt 0)) rfl rfl rfl ?_
      refine h_aload_n (pc' := 14) rfl rfl rfl ?_
      refine h_getR (pc' := 17) rfl rfl rfl rfl rfl ?_
      refine h_iload_n (pc' := 18) rfl rfl rfl ?_
      refine h_calls (pc' := 21) (M := [(0, .int z11)]) rfl rfl rfl rfl rfl rfl ?_
      refine h_iload_n (pc' := 1) rfl rfl rfl ?_
      refine h_zne (tg := 9) (pc' := 4) rfl rfl rfl hz11 (fun c21 => absurd (Int.le_antisymm (by omega) (by omega)) c21) (fun c21 => ?_)
      refine h_bipush (pc' := 6) (x := (Int32.ofInt 12)) rfl rfl cb_12 ?_
      refine h_goto (pc' := 11) rfl rfl ?_
      refine h_iret rfl rfl (h_Kv ?_)
      refine h_bipush (pc' := 23) (x := (Int32.ofInt 6)) rfl rfl cb_6 ?_
      refine h_iadd (pc' := 24) (c := 18) rfl rfl ci_12 ci_6 rfl (by omega) (by omega) (fun z22 hz22 => ?_)
      refine h_iald (pc' := 25) (v := s0 99 18) rfl rfl rfl hz22 (by omega) (by omega) rfl (fun z23 hz23 => ?_)
      have tz23 := ty_99_3 I0 18 (by omega)
      clear hz22
      refine h_iconst (pc' := 26) (x := (Int32.ofInt 1)) rfl rfl rfl ?_
      refine h_isub (pc' := 27) rfl rfl hz23 ci_1 rfl (by omega) (by omega) (fun z24 hz24 => ?_)
      clear hz23
      refine h_i2l (pc' := 28) rfl rfl hz24 (fun z25 hz25 => ?_)
      clear hz24
      refine h_calls (pc' := 31) (M := [(0, .long z20), (2, .long (Int64.ofInt 0)), (4, .long z25)]) rfl rfl rfl rfl rfl rfl ?_
      refine h_lload_n (pc' := 1) rfl rfl rfl ?_
      refine h_lload_n (pc' := 2) rfl rfl rfl ?_
      refine h_lcmp (pc' := 3) rfl rfl hz20 cl_0 (fun z26 hz26 => ?_)
      refine h_zlt (tg := 17) (pc' := 6) rfl rfl rfl rfl (fun c27 => ?_) (fun c27 => absurd c27 (by omega))
      replace c27 := (h_lcr hz26).1 c27
      clear hz26
      refine h_iconst (pc' := 18) (x := (Int32.ofInt 0)) rfl rfl rfl ?_
      refine h_zret rfl rfl ci_0 (by omega) (h_Kv ?_)
      clear hz20 hz25
      refine h_zeq (tg := 38) (pc' := 34) rfl rfl rfl ci_0 (fun c28 => ?_) (fun c28 => absurd (Int.le_antisymm (by omega) (by omega)) c28)
      refine h_iconst (pc' := 39) (x := (Int32.ofInt 0)) rfl rfl rfl ?_
      refine h_zret rfl rfl ci_0 (by omega) (h_Kv ?_)
      refine h_zeq (tg := 44) (pc' := 9) rfl rfl rfl ci_0 (fun c29 => ?_) (fun c29 => absurd (Int.le_antisymm (by omega) (by omega)) c29)
      refine h_iconst (pc' := 45) (x := (Int32.ofInt (-1))) rfl rfl rfl ?_
      refine h_iret rfl rfl (h_Kv ?_)
      clear hz11 hz13
      refine h_ceq (tg := 1441) (pc' := 404) rfl rfl rfl ci_m1 ci_m1 (fun c30 => ?_) (fun c30 => absurd (Int.le_antisymm (by omega) (by omega)) c30)
      exact kk _ I0 (by first | exact d_tape.le j0 (Int.le_antisymm (by omega) (by omega)) (by omega) (fun j => rfl) (fun j => rfl) | (exfalso; omega)) (Int.le_antisymm (by omega) (by omega)) j2
    · refine h_iload_n (pc' := 5) rfl rfl rfl ?_
      refine h_aload_n (pc' := 6) rfl rfl rfl ?_
      refine h_getI (pc' := 9) (v := s0 13 2) rfl rfl rfl rfl rfl rfl (fun z31 hz31 => ?_)
      have tz31 := tf_13_2 I0
      refine h_cge (tg := 16) (pc' := 12) rfl rfl rfl hz4 hz31 (fun c32 => ?_) (fun c32 => ?_)
      · clear hz31
        refine h_iconst (pc' := 17) (x := (Int32.ofInt 0)) rfl rfl rfl ?_
        refine h_zret rfl rfl ci_0 (by omega) (h_Kv ?_)
        refine h_zeq (tg := 45) (pc' := 26) rfl rfl rfl ci_0 (fun c33 => ?_) (fun c33 => absurd (Int.le_antisymm (by omega) (by omega)) c33)
        refine h_iconst (pc' := 46) (x := (Int32.ofInt (-1))) rfl rfl rfl ?_
        refine h_iret rfl rfl (h_Kv ?_)
        clear hz2 hz4
        refine h_aload_n (pc' := 388) rfl rfl rfl ?_
        refine h_aload_n (pc' := 389) rfl rfl rfl ?_
        refine h_iload_n (pc' := 390) rfl rfl rfl ?_
        refine h_iconst (pc' := 391) (x := (Int32.ofInt 1)) rfl rfl rfl ?_
        refine h_iadd (pc' := 392) rfl rfl hy3 ci_1 rfl (by omega) (by omega) (fun z34 hz34 => ?_)
        refine h_iald (pc' := 393) (v := s0 0 (b3 + 1)) rfl rfl rfl hz34 (by omega) (by omega) rfl (fun z35 hz35 => ?_)
        have tz35 := h_rgv hz35
        clear hz34
        refine h_aload_n (pc' := 394) rfl rfl rfl ?_
        refine h_iload_n (pc' := 395) rfl rfl rfl ?_
        refine h_iconst (pc' := 396) (x := (Int32.ofInt 2)) rfl rfl rfl ?_
        refine h_iadd (pc' := 397) rfl rfl hy3 ci_2 rfl (by omega) (by omega) (fun z36 hz36 => ?_)
        refine h_iald (pc' := 398) (v := s0 0 (b3 + 2)) rfl rfl rfl hz36 (by omega) (by omega) rfl (fun z37 hz37 => ?_)
        have tz37 := h_rgv hz37
        clear hz36
        refine h_call (sp := false) (pc' := 401) (M := [(0, .ref 98), (1, .int z35), (2, .int z37)]) rfl rfl rfl rfl rfl rfl rfl rfl ?_
        refine h_aload_n (pc' := 1) rfl rfl rfl ?_
        refine h_iload_n (pc' := 2) rfl rfl rfl ?_
        refine h_iload_n (pc' := 3) rfl rfl rfl ?_
        refine h_call (sp := false) (pc' := 6) (M := [(0, .ref 98), (1, .int z35), (2, .int z37)]) rfl rfl rfl rfl rfl rfl rfl rfl ?_
        refine h_iload_n (pc' := 1) rfl rfl rfl ?_
        refine h_i2l (pc' := 2) rfl rfl hz35 (fun z38 hz38 => ?_)
        refine h_lconst (pc' := 3) (x := (Int64.ofInt 0)) rfl rfl rfl ?_
        refine h_lconst (pc' := 4) (x := (Int64.ofInt 1)) rfl rfl rfl ?_
        refine h_calls (pc' := 7) (M := [(0, .long z38), (2, .long (Int64.ofInt 0)), (4, .long (Int64.ofInt 1))]) rfl rfl rfl rfl rfl rfl ?_
        refine h_lload_n (pc' := 1) rfl rfl rfl ?_
        refine h_lload_n (pc' := 2) rfl rfl rfl ?_
        refine h_lcmp (pc' := 3) rfl rfl hz38 cl_0 (fun z39 hz39 => ?_)
        refine h_zlt (tg := 17) (pc' := 6) rfl rfl rfl rfl (fun c40 => absurd c40 (by omega)) (fun c40 => ?_)
        replace c40 := (h_lcr hz39).2.1 c40
        clear hz39
        refine h_lload_n (pc' := 7) rfl rfl rfl ?_
        refine h_lload (pc' := 9) rfl rfl rfl ?_
        refine h_lcmp (pc' := 10) rfl rfl hz38 cl_1 (fun z41 hz41 => ?_)
        refine h_zgt (tg := 17) (pc' := 13) rfl rfl rfl rfl (fun c42 => absurd c42 (by omega)) (fun c42 => ?_)
        replace c42 := (h_lcr hz41).2.2.1 c42
        clear hz41
        refine h_iconst (pc' := 14) (x := (Int32.ofInt 1)) rfl rfl rfl ?_
        refine h_goto (pc' := 18) rfl rfl ?_
        refine h_zret rfl rfl ci_1 (by omega) (h_Kv ?_)
        clear hz38
        refine h_zeq (tg := 38) (pc' := 10) rfl rfl rfl ci_1 (fun c43 => absurd c43 (by omega)) (fun c43 => ?_)
        refine h_iload_n (pc' := 11) rfl rfl rfl ?_
        refine h_i2l (pc' := 12) rfl rfl hz37 (fun z44 hz44 => ?_)
        refine h_lconst (pc' := 13) (x := (Int64.ofInt 0)) rfl rfl rfl ?_
        refine h_aload_n (pc' := 14) rfl rfl rfl ?_
        refine h_getR (pc' := 17) rfl rfl rfl rfl rfl ?_
        refine h_iload_n (pc' := 18) rfl rfl rfl ?_
        refine h_calls (pc' := 21) (M := [(0, .int z35)]) rfl rfl rfl rfl rfl rfl ?_
        refine h_iload_n (pc' := 1) rfl rfl rfl ?_
        refine h_zne (tg := 9) (pc' := 4) rfl rfl rfl hz35 (fun c45 => absurd (Int.le_antisymm (by omega) (by omega)) c45) (fun c45 => ?_)
        refine h_bipush (pc' := 6) (x := (Int32.ofInt 12)) rfl rfl cb_12 ?_
        refine h_goto (pc' := 11) rfl rfl ?_
        refine h_iret rfl rfl (h_Kv ?_)
        refine h_bipush (pc' := 23) (x := (Int32.ofInt 6)) rfl rfl cb_6 ?_
        refine h_iadd (pc' := 24) (c := 18) rfl rfl ci_12 ci_6 rfl (by omega) (by omega) (fun z46 hz46 => ?_)
        refine h_iald (pc' := 25) (v := s0 99 18) rfl rfl rfl hz46 (by omega) (by omega) rfl (fun z47 hz47 => ?_)
        have tz47 := ty_99_3 I0 18 (by omega)
        clear hz46
        refine h_iconst (pc' := 26) (x := (Int32.ofInt 1)) rfl rfl rfl ?_
        refine h_isub (pc' := 27) rfl rfl hz47 ci_1 rfl (by omega) (by omega) (fun z48 hz48 => ?_)
        clear hz47
        refine h_i2l (pc' := 28) rfl rfl hz48 (fun z49 hz49 => ?_)
        clear hz48
        refine h_calls (pc' := 31) (M := [(0, .long z44), (2, .long (Int64.ofInt 0)), (4, .long z49)]) rfl rfl rfl rfl rfl rfl ?_
        refine h_lload_n (pc' := 1) rfl rfl rfl ?_
        refine h_lload_n (pc' := 2) rfl rfl rfl ?_
        refine h_lcmp (pc' := 3) rfl rfl hz44 cl_0 (fun z50 hz50 => ?_)
        refine h_zlt (tg := 17) (pc' := 6) rfl rfl rfl rfl (fun c51 => absurd c51 (by omega)) (fun c51 => ?_)
        replace c51 := (h_lcr hz50).2.1 c51
        clear hz50
        refine h_lload_n (pc' := 7) rfl rfl rfl ?_
        refine h_lload (pc' := 9) rfl rfl rfl ?_
        refine h_lcmp (pc' := 10) rfl rfl hz44 hz49 (fun z52 hz52 => ?_)
        refine h_zgt (tg := 17) (pc' := 13) rfl rfl rfl rfl (fun c53 => ?_) (fun c53 => absurd c53 (by omega))
        replace c53 := (h_lcr hz52).2.2.2.1 c53
        clear hz52
        refine h_iconst (pc' := 18) (x := (Int32.ofInt 0)) rfl rfl rfl ?_
        refine h_zret rfl rfl ci_0 (by omega) (h_Kv ?_)
        clear hz44 hz49
        refine h_zeq (tg := 38) (pc' := 34) rfl rfl rfl ci_0 (fun c54 => ?_) (fun c54 => absurd (Int.le_antisymm (by omega) (by omega)) c54)
        refine h_iconst (pc' := 39) (x := (Int32.ofInt 0)) rfl rfl rfl ?_
        refine h_zret rfl rfl ci_0 (by omega) (h_Kv ?_)
        refine h_zeq (tg := 44) (pc' := 9) rfl rfl rfl ci_0 (fun c55 => ?_) (fun c55 => absurd (Int.le_antisymm (by omega) (by omega)) c55)
        refine h_iconst (pc' := 45) (x := (Int32.ofInt (-1))) rfl rfl rfl ?_
        refine h_iret rfl rfl (h_Kv ?_)
        clear hz35 hz37
        refine h_ceq (tg := 1441) (pc' := 404) rfl rfl rfl ci_m1 ci_m1 (fun c56 => ?_) (fun c56 => absurd (Int.le_antisymm (by omega) (by omega)) c56)
        exact kk _ I0 (by first | exact d_tape.le j0 (Int.le_antisymm (by omega) (by omega)) (by omega) (fun j => rfl) (fun j => rfl) | (exfalso; omega)) (Int.le_antisymm (by omega) (by omega)) j2
      · clear hz31
        refine h_iconst (pc' := 13) (x := (Int32.ofInt 1)) rfl rfl rfl ?_
        refine h_goto (pc' := 17) rfl rfl ?_
        refine h_zret rfl rfl ci_1 (by omega) (h_Kv ?_)
        refine h_zeq (tg := 45) (pc' := 26) rfl rfl rfl ci_1 (fun c57 => absurd c57 (by omega)) (fun c57 => ?_)
        refine h_bipush (pc' := 28) (x := (Int32.ofInt 10)) rfl rfl cb_10 ?_
        refine h_aload_n (pc' := 29) rfl rfl rfl ?_
        refine h_getR (pc' := 32) rfl rfl rfl rfl rfl ?_
        refine h_iload_n (pc' := 33) rfl rfl rfl ?_
        refine h_iald (pc' := 34) (v := s0 14 (s0 0 (b3 + 2))) rfl rfl rfl hz4 (by omega) (by omega) rfl (fun z58 hz58 => ?_)
        have tz58 := ty_14 I0 (s0 0 (b3 + 2))
        refine h_imul (pc' := 35) rfl rfl ci_10 hz58 rfl (by omega) (by omega) (fun z59 hz59 => ?_)
        clear hz58
        refine h_aload_n (pc' := 36) rfl rfl rfl ?_
        refine h_getR (pc' := 39) rfl rfl rfl rfl rfl ?_
        refine h_iload_n (pc' := 40) rfl rfl rfl ?_
        refine h_iald (pc' := 41) (v := s0 15 (s0 0 (b3 + 2))) rfl rfl rfl hz4 (by omega) (by omega) rfl (fun z60 hz60 => ?_)
        have tz60 := ty_15 I0 (s0 0 (b3 + 2))
        refine h_iadd (pc' := 42) rfl rfl hz59 hz60 rfl (by omega) (by omega) (fun z61 hz61 => ?_)
        clear hz59 hz60
        refine h_goto (pc' := 46) rfl rfl ?_
        refine h_iret rfl rfl (h_Kv ?_)
        clear hz2 hz4
        refine h_aload_n (pc' := 388) rfl rfl rfl ?_
        refine h_aload_n (pc' := 389) rfl rfl rfl ?_
        refine h_iload_n (pc' := 390) rfl rfl rfl ?_
        refine h_iconst (pc' := 391) (x := (Int32.ofInt 1)) rfl rfl rfl ?_
        refine h_iadd (pc' := 392) rfl rfl hy3 ci_1 rfl (by omega) (by omega) (fun z62 hz62 => ?_)
        refine h_iald (pc' := 393) (v := s0 0 (b3 + 1)) rfl rfl rfl hz62 (by omega) (by omega) rfl (fun z63 hz63 => ?_)
        have tz63 := h_rgv hz63
        clear hz62
        refine h_aload_n (pc' := 394) rfl rfl rfl ?_
        refine h_iload_n (pc' := 395) rfl rfl rfl ?_
        refine h_iconst (pc' := 396) (x := (Int32.ofInt 2)) rfl rfl rfl ?_
        refine h_iadd (pc' := 397) rfl rfl hy3 ci_2 rfl (by omega) (by omega) (fun z64 hz64 => ?_)
        refine h_iald (pc' := 398) (v := s0 0 (b3 + 2)) rfl rfl rfl hz64 (by omega) (by omega) rfl (fun z65 hz65 => ?_)
        have tz65 := h_rgv hz65
        clear hz64
        refine h_call (sp := false) (pc' := 401) (M := [(0, .ref 98), (1, .int z63), (2, .int z65)]) rfl rfl rfl rfl rfl rfl rfl rfl ?_
        refine h_aload_n (pc' := 1) rfl rfl rfl ?_
        refine h_iload_n (pc' := 2) rfl rfl rfl ?_
        refine h_iload_n (pc' := 3) rfl rfl rfl ?_
        refine h_call (sp := false) (pc' := 6) (M := [(0, .ref 98), (1, .int z63), (2, .int z65)]) rfl rfl rfl rfl rfl rfl rfl rfl ?_
        refine h_iload_n (pc' := 1) rfl rfl rfl ?_
        refine h_i2l (pc' := 2) rfl rfl hz63 (fun z66 hz66 => ?_)
        refine h_lconst (pc' := 3) (x := (Int64.ofInt 0)) rfl rfl rfl ?_
        refine h_lconst (pc' := 4) (x := (Int64.ofInt 1)) rfl rfl rfl ?_
        refine h_calls (pc' := 7) (M := [(0, .long z66), (2, .long (Int64.ofInt 0)), (4, .long (Int64.ofInt 1))]) rfl rfl rfl rfl rfl rfl ?_
        refine h_lload_n (pc' := 1) rfl rfl rfl ?_
        refine h_lload_n (pc' := 2) rfl rfl rfl ?_
        refine h_lcmp (pc' := 3) rfl rfl hz66 cl_0 (fun z67 hz67 => ?_)
        refine h_zlt (tg := 17) (pc' := 6) rfl rfl rfl rfl (fun c68 => absurd c68 (by omega)) (fun c68 => ?_)
        replace c68 := (h_lcr hz67).2.1 c68
        clear hz67
        refine h_lload_n (pc' := 7) rfl rfl rfl ?_
        refine h_lload (pc' := 9) rfl rfl rfl ?_
        refine h_lcmp (pc' := 10) rfl rfl hz66 cl_1 (fun z69 hz69 => ?_)
        refine h_zgt (tg := 17) (pc' := 13) rfl rfl rfl rfl (fun c70 => absurd c70 (by omega)) (fun c70 => ?_)
        replace c70 := (h_lcr hz69).2.2.1 c70
        clear hz69
        refine h_iconst (pc' := 14) (x := (Int32.ofInt 1)) rfl rfl rfl ?_
        refine h_goto (pc' := 18) rfl rfl ?_
        refine h_zret rfl rfl ci_1 (by omega) (h_Kv ?_)
        clear hz66
        refine h_zeq (tg := 38) (pc' := 10) rfl rfl rfl ci_1 (fun c71 => absurd c71 (by omega)) (fun c71 => ?_)
        refine h_iload_n (pc' := 11) rfl rfl rfl ?_
        refine h_i2l (pc' := 12) rfl rfl hz65 (fun z72 hz72 => ?_)
        refine h_lconst (pc' := 13) (x := (Int64.ofInt 0)) rfl rfl rfl ?_
        refine h_aload_n (pc' := 14) rfl rfl rfl ?_
        refine h_getR (pc' := 17) rfl rfl rfl rfl rfl ?_
        refine h_iload_n (pc' := 18) rfl rfl rfl ?_
        refine h_calls (pc' := 21) (M := [(0, .int z63)]) rfl rfl rfl rfl rfl rfl ?_
        refine h_iload_n (pc' := 1) rfl rfl rfl ?_
        refine h_zne (tg := 9) (pc' := 4) rfl rfl rfl hz63 (fun c73 => absurd (Int.le_antisymm (by omega) (by omega)) c73) (fun c73 => ?_)
        refine h_bipush (pc' := 6) (x := (Int32.ofInt 12)) rfl rfl cb_12 ?_
        refine h_goto (pc' := 11) rfl rfl ?_
        refine h_iret rfl rfl (h_Kv ?_)
        refine h_bipush (pc' := 23) (x := (Int32.ofInt 6)) rfl rfl cb_6 ?_
        refine h_iadd (pc' := 24) (c := 18) rfl rfl ci_12 ci_6 rfl (by omega) (by omega) (fun z74 hz74 => ?_)
        refine h_iald (pc' := 25) (v := s0 99 18) rfl rfl rfl hz74 (by omega) (by omega) rfl (fun z75 hz75 => ?_)
        have tz75 := ty_99_3 I0 18 (by omega)
        clear hz74
        refine h_iconst (pc' := 26) (x := (Int32.ofInt 1)) rfl rfl rfl ?_
        refine h_isub (pc' := 27) rfl rfl hz75 ci_1 rfl (by omega) (by omega) (fun z76 hz76 => ?_)
        clear hz75
        refine h_i2l (pc' := 28) rfl rfl hz76 (fun z77 hz77 => ?_)
        clear hz76
        refine h_calls (pc' := 31) (M := [(0, .long z72), (2, .long (Int64.ofInt 0)), (4, .long z77)]) rfl rfl rfl rfl rfl rfl ?_
        refine h_lload_n (pc' := 1) rfl rfl rfl ?_
        refine h_lload_n (pc' := 2) rfl rfl rfl ?_
        refine h_lcmp (pc' := 3) rfl rfl hz72 cl_0 (fun z78 hz78 => ?_)
        refine h_zlt (tg := 17) (pc' := 6) rfl rfl rfl rfl (fun c79 => absurd c79 (by omega)) (fun c79 => ?_)
        replace c79 := (h_lcr hz78).2.1 c79
        clear hz78
        refine h_lload_n (pc' := 7) rfl rfl rfl ?_
        refine h_lload (pc' := 9) rfl rfl rfl ?_
        refine h_lcmp (pc' := 10) rfl rfl hz72 hz77 (fun z80 hz80 => ?_)
        refine h_zgt (tg := 17) (pc' := 13) rfl rfl rfl rfl (fun c81 => absurd c81 (by omega)) (fun c81 => ?_)
        replace c81 := (h_lcr hz80).2.2.1 c81
        clear hz80
        refine h_iconst (pc' := 14) (x := (Int32.ofInt 1)) rfl rfl rfl ?_
        refine h_goto (pc' := 18) rfl rfl ?_
        refine h_zret rfl rfl ci_1 (by omega) (h_Kv ?_)
        clear hz72 hz77
        refine h_zeq (tg := 38) (pc' := 34) rfl rfl rfl ci_1 (fun c82 => absurd c82 (by omega)) (fun c82 => ?_)
        refine h_iconst (pc' := 35) (x := (Int32.ofInt 1)) rfl rfl rfl ?_
        refine h_goto (pc' := 39) rfl rfl ?_
        refine h_zret rfl rfl ci_1 (by omega) (h_Kv ?_)
        refine h_zeq (tg := 44) (pc' := 9) rfl rfl rfl ci_1 (fun c83 => absurd c83 (by omega)) (fun c83 => ?_)
        refine h_bipush (pc' := 11) (x := (Int32.ofInt 10)) rfl rfl cb_10 ?_
        refine h_aload_n (pc' := 12) rfl rfl rfl ?_
        refine h_getR (pc' := 15) rfl rfl rfl rfl rfl ?_
        refine h_iload_n (pc' := 16) rfl rfl rfl ?_
        refine h_calls (pc' := 19) (M := [(0, .int z63)]) rfl rfl rfl rfl rfl rfl ?_
        refine h_iload_n (pc' := 1) rfl rfl rfl ?_
        refine h_zne (tg := 9) (pc' := 4) rfl rfl rfl hz63 (fun c84 => absurd (Int.le_antisymm (by omega) (by omega)) c84) (fun c84 => ?_)
        refine h_bipush (pc' := 6) (x := (Int32.ofInt 12)) rfl rfl cb_12 ?_
        refine h_goto (pc' := 11) rfl rfl ?_
        refine h_iret rfl rfl (h_Kv ?_)
        refine h_iconst (pc' := 20) (x := (Int32.ofInt 2)) rfl rfl rfl ?_
        refine h_iload_n (pc' := 21) rfl rfl rfl ?_
        refine h_imul (pc' := 22) rfl rfl ci_2 hz65 rfl (by have g0 := h_rgv hz65; omega) (by have g0 := h_rgv hz65; omega) (fun z85 hz85 => ?_)
        refine h_iadd (pc' := 23) rfl rfl ci_12 hz85 rfl (by omega) (by omega) (fun z86 hz86 => ?_)
        clear hz85
        refine h_iald (pc' := 24) (v := s0 99 (12 + (2 * (s0 0 (b3 + 2))))) rfl rfl rfl hz86 (by omega) (by omega) rfl (fun z87 hz87 => ?_)
        have tz87 := ty_99_2 I0 (12 + (2 * (s0 0 (b3 + 2)))) (by omega)
        clear hz86
        refine h_imul (pc' := 25) rfl rfl ci_10 hz87 rfl (by omega) (by omega) (fun z88 hz88 => ?_)
        clear hz87
        refine h_aload_n (pc' := 26) rfl rfl rfl ?_
        refine h_getR (pc' := 29) rfl rfl rfl rfl rfl ?_
        refine h_iload_n (pc' := 30) rfl rfl rfl ?_
        refine h_calls (pc' := 33) (M := [(0, .int z63)]) rfl rfl rfl rfl rfl rfl ?_
        refine h_iload_n (pc' := 1) rfl rfl rfl ?_
        refine h_zne (tg := 9) (pc' := 4) rfl rfl rfl hz63 (fun c89 => absurd (Int.le_antisymm (by omega) (by omega)) c89) (fun c89 => ?_)
        refine h_bipush (pc' := 6) (x := (Int32.ofInt 12)) rfl rfl cb_12 ?_
        refine h_goto (pc' := 11) rfl rfl ?_
        refine h_iret rfl rfl (h_Kv ?_)
        refine h_iconst (pc' := 34) (x := (Int32.ofInt 2)) rfl rfl rfl ?_
        refine h_iload_n (pc' := 35) rfl rfl rfl ?_
        refine h_imul (pc' := 36) rfl rfl ci_2 hz65 rfl (by have g0 := h_rgv hz65; omega) (by have g0 := h_rgv hz65; omega) (fun z90 hz90 => ?_)
        refine h_iadd (pc' := 37) rfl rfl ci_12 hz90 rfl (by omega) (by omega) (fun z91 hz91 => ?_)
        clear hz90
        refine h_iconst (pc' := 38) (x := (Int32.ofInt 1)) rfl rfl rfl ?_
        refine h_iadd (pc' := 39) rfl rfl hz91 ci_1 rfl (by omega) (by omega) (fun z92 hz92 => ?_)
        clear hz91
        refine h_iald (pc' := 40) (v := s0 99 ((12 + (2 * (s0 0 (b3 + 2)))) + 1)) rfl rfl rfl hz92 (by omega) (by omega) rfl (fun z93 hz93 => ?_)
        have tz93 := ty_99_2 I0 ((12 + (2 * (s0 0 (b3 + 2)))) + 1) (by omega)
        clear hz92
        refine h_iadd (pc' := 41) rfl rfl hz88 hz93 rfl (by omega) (by omega) (fun z94 hz94 => ?_)
        clear hz88 hz93
        refine h_goto (pc' := 45) rfl rfl ?_
        refine h_iret rfl rfl (h_Kv ?_)
        clear hz63 hz65
        refine h_ceq (tg := 1441) (pc' := 404) rfl rfl rfl hz61 hz94 (fun c95 => ?_) (fun c95 => ?_)
        · clear hz61 hz94
          exact kk _ I0 (by first | exact d_tape.le j0 (Int.le_antisymm (by omega) (by omega)) (by omega) (fun j => rfl) (fun j => rfl) | (exfalso; omega)) (Int.le_antisymm (by omega) (by omega)) j2
        · clear hz61 hz94
          refine h_iconst (pc' := 405) (x := (Int32.ofInt 0)) rfl rfl rfl ?_
          first | have ga := j2.mr (j := s0 0 (b3 + 2)) (by omega) (by omega) | skip
          first | have gb := j2.fe (j := s0 0 (b3 + 2)) (by omega) (by omega) | skip
          exfalso
          omega
  · refine h_iload_n (pc' := 5) rfl rfl rfl ?_
    refine h_iconst (pc' := 6) (x := (Int32.ofInt 1)) rfl rfl rfl ?_
    refine h_cne (tg := 13) (pc' := 9) rfl rfl rfl hz2 ci_1 (fun c96 => ?_) (fun c96 => ?_)
    · refine h_iconst (pc' := 14) (x := (Int32.ofInt 0)) rfl rfl rfl ?_
      refine h_zret rfl rfl ci_0 (by omega) (h_Kv ?_)
      refine h_zne (tg := 9) (pc' := 7) rfl rfl rfl ci_0 (fun c97 => absurd (Int.le_antisymm (by omega) (by omega)) c97) (fun c97 => ?_)
      refine h_iconst (pc' := 8) (x := (Int32.ofInt (-1))) rfl rfl rfl ?_
      refine h_iret rfl rfl (h_Kv ?_)
      clear hz2 hz4
      refine h_aload_n (pc' := 388) rfl rfl rfl ?_
      refine h_aload_n (pc' := 389) rfl rfl rfl ?_
      refine h_iload_n (pc' := 390) rfl rfl rfl ?_
      refine h_iconst (pc' := 391) (x := (Int32.ofInt 1)) rfl rfl rfl ?_
      refine h_iadd (pc' := 392) rfl rfl hy3 ci_1 rfl (by omega) (by omega) (fun z98 hz98 => ?_)
      refine h_iald (pc' := 393) (v := s0 0 (b3 + 1)) rfl rfl rfl hz98 (by omega) (by omega) rfl (fun z99 hz99 => ?_)
      have tz99 := h_rgv hz99
      clear hz98
      refine h_aload_n (pc' := 394) rfl rfl rfl ?_
      refine h_iload_n (pc' := 395) rfl rfl rfl ?_
      refine h_iconst (pc' := 396) (x := (Int32.ofInt 2)) rfl rfl rfl ?_
      refine h_iadd (pc' := 397) rfl rfl hy3 ci_2 rfl (by omega) (by omega) (fun z100 hz100 => ?_)
      refine h_iald (pc' := 398) (v := s0 0 (b3 + 2)) rfl rfl rfl hz100 (by omega) (by omega) rfl (fun z101 hz101 => ?_)
      have tz101 := h_rgv hz101
      clear hz100
      refine h_call (sp := false) (pc' := 401) (M := [(0, .ref 98), (1, .int z99), (2, .int z101)]) rfl rfl rfl rfl rfl rfl rfl rfl ?_
      refine h_aload_n (pc' := 1) rfl rfl rfl ?_
      refine h_iload_n (pc' := 2) rfl rfl rfl ?_
      refine h_iload_n (pc' := 3) rfl rfl rfl ?_
      refine h_call (sp := false) (pc' := 6) (M := [(0, .ref 98), (1, .int z99), (2, .int z101)]) rfl rfl rfl rfl rfl rfl rfl rfl ?_
      refine h_iload_n (pc' := 1) rfl rfl rfl ?_
      refine h_i2l (pc' := 2) rfl rfl hz99 (fun z102 hz102 => ?_)
      refine h_lconst (pc' := 3) (x := (Int64.ofInt 0)) rfl rfl rfl ?_
      refine h_lconst (pc' := 4) (x := (Int64.ofInt 1)) rfl rfl rfl ?_
      refine h_calls (pc' := 7) (M := [(0, .long z102), (2, .long (Int64.ofInt 0)), (4, .long (Int64.ofInt 1))]) rfl rfl rfl rfl rfl rfl ?_
      refine h_lload_n (pc' := 1) rfl rfl rfl ?_
      refine h_lload_n (pc' := 2) rfl rfl rfl ?_
      refine h_lcmp (pc' := 3) rfl rfl hz102 cl_0 (fun z103 hz103 => ?_)
      refine h_zlt (tg := 17) (pc' := 6) rfl rfl rfl rfl (fun c104 => ?_) (fun c104 => ?_)
      · replace c104 := (h_lcr hz103).1 c104
        clear hz103
        refine h_iconst (pc' := 18) (x := (Int32.ofInt 0)) rfl rfl rfl ?_
        refine h_zret rfl rfl ci_0 (by omega) (h_Kv ?_)
        clear hz102
        refine h_zeq (tg := 38) (pc' := 10) rfl rfl rfl ci_0 (fun c105 => ?_) (fun c105 => absurd (Int.le_antisymm (by omega) (by omega)) c105)
        refine h_iconst (pc' := 39) (x := (Int32.ofInt 0)) rfl rfl rfl ?_
        refine h_zret rfl rfl ci_0 (by omega) (h_Kv ?_)
        refine h_zeq (tg := 44) (pc' := 9) rfl rfl rfl ci_0 (fun c106 => ?_) (fun c106 => absurd (Int.le_antisymm (by omega) (by omega)) c106)
        refine h_iconst (pc' := 45) (x := (Int32.ofInt (-1))) rfl rfl rfl ?_
        refine h_iret rfl rfl (h_Kv ?_)
        clear hz101 hz99
        refine h_ceq (tg := 1441) (pc' := 404) rfl rfl rfl ci_m1 ci_m1 (fun c107 => ?_) (fun c107 => absurd (Int.le_antisymm (by omega) (by omega)) c107)
        exact kk _ I0 (by first | exact d_tape.le j0 (Int.le_antisymm (by omega) (by omega)) (by omega) (fun j => rfl) (fun j => rfl) | (exfalso; omega)) (Int.le_antisymm (by omega) (by omega)) j2
      · replace c104 := (h_lcr hz103).2.1 c104
        clear hz103
        refine h_lload_n (pc' := 7) rfl rfl rfl ?_
        refine h_lload (pc' := 9) rfl rfl rfl ?_
        refine h_lcmp (pc' := 10) rfl rfl hz102 cl_1 (fun z108 hz108 => ?_)
        refine h_zgt (tg := 17) (pc' := 13) rfl rfl rfl rfl (fun c109 => ?_) (fun c109 => absurd c109 (by omega))
        replace c109 := (h_lcr hz108).2.2.2.1 c109
        clear hz108
        refine h_iconst (pc' := 18) (x := (Int32.ofInt 0)) rfl rfl rfl ?_
        refine h_zret rfl rfl ci_0 (by omega) (h_Kv ?_)
        clear hz102
        refine h_zeq (tg := 38) (pc' := 10) rfl rfl rfl ci_0 (fun c110 => ?_) (fun c110 => absurd (Int.le_antisymm (by omega) (by omega)) c110)
        refine h_iconst (pc' := 39) (x := (Int32.ofInt 0)) rfl rfl rfl ?_
        refine h_zret rfl rfl ci_0 (by omega) (h_Kv ?_)
        refine h_zeq (tg := 44) (pc' := 9) rfl rfl rfl ci_0 (fun c111 => ?_) (fun c111 => absurd (Int.le_antisymm (by omega) (by omega)) c111)
        refine h_iconst (pc' := 45) (x := (Int32.ofInt (-1))) rfl rfl rfl ?_
        refine h_iret rfl rfl (h_Kv ?_)
        clear hz101 hz99
        refine h_ceq (tg := 1441) (pc' := 404) rfl rfl rfl ci_m1 ci_m1 (fun c112 => ?_) (fun c112 => absurd (Int.le_antisymm (by omega) (by omega)) c112)
        exact kk _ I0 (by first | exact d_tape.le j0 (Int.le_antisymm (by omega) (by omega)) (by omega) (fun j => rfl) (fun j => rfl) | (exfalso; omega)) (Int.le_antisymm (by omega) (by omega)) j2
    · refine h_iconst (pc' := 10) (x := (Int32.ofInt 1)) rfl rfl rfl ?_
      refine h_goto (pc' := 14) rfl rfl ?_
      refine h_zret rfl rfl ci_1 (by omega) (h_Kv ?_)
      refine h_zne (tg := 9) (pc' := 7) rfl rfl rfl ci_1 (fun c113 => ?_) (fun c113 => absurd c113 (by omega))
      refine h_aload_n (pc' := 10) rfl rfl rfl ?_
      refine h_getR (pc' := 13) rfl rfl rfl rfl rfl ?_
      refine h_iload_n (pc' := 14) rfl rfl rfl ?_
      refine h_call (sp := false) (pc' := 17) (M := [(0, .ref 10), (1, .int z2)]) rfl rfl rfl rfl rfl rfl rfl rfl ?_
      refine h_iload_n (pc' := 1) rfl rfl rfl ?_
      refine h_zne (tg := 11) (pc' := 4) rfl rfl rfl hz2 (fun c114 => ?_) (fun c114 => absurd c114 (by omega))
      refine h_aload_n (pc' := 12) rfl rfl rfl ?_
      refine h_getR (pc' := 15) rfl rfl rfl rfl rfl ?_
      refine h_aret rfl rfl (h_Kv ?_)
      refine h_astore_n (pc' := 18) (M := [(3, .ref 16), (0, .ref 9), (1, .int z2), (2, .int z4)]) rfl rfl rfl rfl ?_
      refine h_aload_n (pc' := 19) rfl rfl rfl ?_
      refine h_iload_n (pc' := 20) rfl rfl rfl ?_
      refine h_call (sp := false) (pc' := 23) (M := [(0, .ref 16), (1, .int z4)]) rfl rfl rfl rfl rfl rfl rfl rfl ?_
      refine h_iload_n (pc' := 1) rfl rfl rfl ?_
      refine h_zlt (tg := 16) (pc' := 4) rfl rfl rfl hz4 (fun c115 => ?_) (fun c115 => ?_)
      · refine h_iconst (pc' := 17) (x := (Int32.ofInt 0)) rfl rfl rfl ?_
        refine h_zret rfl rfl ci_0 (by omega) (h_Kv ?_)
        refine h_zeq (tg := 45) (pc' := 26) rfl rfl rfl ci_0 (fun c116 => ?_) (fun c116 => absurd (Int.le_antisymm (by omega) (by omega)) c116)
        refine h_iconst (pc' := 46) (x := (Int32.ofInt (-1))) rfl rfl rfl ?_
        refine h_iret rfl rfl (h_Kv ?_)
        clear hz2 hz4
        refine h_aload_n (pc' := 388) rfl rfl rfl ?_
        refine h_aload_n (pc' := 389) rfl rfl rfl ?_
        refine h_iload_n (pc' := 390) rfl rfl rfl ?_
        refine h_iconst (pc' := 391) (x := (Int32.ofInt 1)) rfl rfl rfl ?_
        refine h_iadd (pc' := 392) rfl rfl hy3 ci_1 rfl (by omega) (by omega) (fun z117 hz117 => ?_)
        refine h_iald (pc' := 393) (v := s0 0 (b3 + 1)) rfl rfl rfl hz117 (by omega) (by omega) rfl (fun z118 hz118 => ?_)
        have tz118 := h_rgv hz118
        clear hz117
        refine h_aload_n (pc' := 394) rfl rfl rfl ?_
        refine h_iload_n (pc' := 395) rfl rfl rfl ?_
        refine h_iconst (pc' := 396) (x := (Int32.ofInt 2)) rfl rfl rfl ?_
        refine h_iadd (pc' := 397) rfl rfl hy3 ci_2 rfl (by omega) (by omega) (fun z119 hz119 => ?_)
        refine h_iald (pc' := 398) (v := s0 0 (b3 + 2)) rfl rfl rfl hz119 (by omega) (by omega) rfl (fun z120 hz120 => ?_)
        have tz120 := h_rgv hz120
        clear hz119
        refine h_call (sp := false) (pc' := 401) (M := [(0, .ref 98), (1, .int z118), (2, .int z120)]) rfl rfl rfl rfl rfl rfl rfl rfl ?_
        refine h_aload_n (pc' := 1) rfl rfl rfl ?_
        refine h_iload_n (pc' := 2) rfl rfl rfl ?_
        refine h_iload_n (pc' := 3) rfl rfl rfl ?_
        refine h_call (sp := false) (pc' := 6) (M := [(0, .ref 98), (1, .int z118), (2, .int z120)]) rfl rfl rfl rfl rfl rfl rfl rfl ?_
        refine h_iload_n (pc' := 1) rfl rfl rfl ?_
        refine h_i2l (pc' := 2) rfl rfl hz118 (fun z121 hz121 => ?_)
        refine h_lconst (pc' := 3) (x := (Int64.ofInt 0)) rfl rfl rfl ?_
        refine h_lconst (pc' := 4) (x := (Int64.ofInt 1)) rfl rfl rfl ?_
        refine h_calls (pc' := 7) (M := [(0, .long z121), (2, .long (Int64.ofInt 0)), (4, .long (Int64.ofInt 1))]) rfl rfl rfl rfl rfl rfl ?_
        refine h_lload_n (pc' := 1) rfl rfl rfl ?_
        refine h_lload_n (pc' := 2) rfl rfl rfl ?_
        refine h_lcmp (pc' := 3) rfl rfl hz121 cl_0 (fun z122 hz122 => ?_)
        refine h_zlt (tg := 17) (pc' := 6) rfl rfl rfl rfl (fun c123 => absurd c123 (by omega)) (fun c123 => ?_)
        replace c123 := (h_lcr hz122).2.1 c123
        clear hz122
        refine h_lload_n (pc' := 7) rfl rfl rfl ?_
        refine h_lload (pc' := 9) rfl rfl rfl ?_
        refine h_lcmp (pc' := 10) rfl rfl hz121 cl_1 (fun z124 hz124 => ?_)
        refine h_zgt (tg := 17) (pc' := 13) rfl rfl rfl rfl (fun c125 => absurd c125 (by omega)) (fun c125 => ?_)
        replace c125 := (h_lcr hz124).2.2.1 c125
        clear hz124
        refine h_iconst (pc' := 14) (x := (Int32.ofInt 1)) rfl rfl rfl ?_
        refine h_goto (pc' := 18) rfl rfl ?_
        refine h_zret rfl rfl ci_1 (by omega) (h_Kv ?_)
        clear hz121
        refine h_zeq (tg := 38) (pc' := 10) rfl rfl rfl ci_1 (fun c126 => absurd c126 (by omega)) (fun c126 => ?_)
        refine h_iload_n (pc' := 11) rfl rfl rfl ?_
        refine h_i2l (pc' := 12) rfl rfl hz120 (fun z127 hz127 => ?_)
        refine h_lconst (pc' := 13) (x := (Int64.ofInt 0)) rfl rfl rfl ?_
        refine h_aload_n (pc' := 14) rfl rfl rfl ?_
        refine h_getR (pc' := 17) rfl rfl rfl rfl rfl ?_
        refine h_iload_n (pc' := 18) rfl rfl rfl ?_
        refine h_calls (pc' := 21) (M := [(0, .int z118)]) rfl rfl rfl rfl rfl rfl ?_
        refine h_iload_n (pc' := 1) rfl rfl rfl ?_
        refine h_zne (tg := 9) (pc' := 4) rfl rfl rfl hz118 (fun c128 => ?_) (fun c128 => absurd c128 (by omega))
        refine h_bipush (pc' := 11) (x := (Int32.ofInt 19)) rfl rfl cb_19 ?_
        refine h_iret rfl rfl (h_Kv ?_)
        refine h_bipush (pc' := 23) (x := (Int32.ofInt 6)) rfl rfl cb_6 ?_
        refine h_iadd (pc' := 24) (c := 25) rfl rfl ci_19 ci_6 rfl (by omega) (by omega) (fun z129 hz129 => ?_)
        refine h_iald (pc' := 25) (v := s0 99 25) rfl rfl rfl hz129 (by omega) (by omega) rfl (fun z130 hz130 => ?_)
        have tz130 := ty_99_5 I0 25 (by omega)
        clear hz129
        refine h_iconst (pc' := 26) (x := (Int32.ofInt 1)) rfl rfl rfl ?_
        refine h_isub (pc' := 27) rfl rfl hz130 ci_1 rfl (by omega) (by omega) (fun z131 hz131 => ?_)
        clear hz130
        refine h_i2l (pc' := 28) rfl rfl hz131 (fun z132 hz132 => ?_)
        clear hz131
        refine h_calls (pc' := 31) (M := [(0, .long z127), (2, .long (Int64.ofInt 0)), (4, .long z132)]) rfl rfl rfl rfl rfl rfl ?_
        refine h_lload_n (pc' := 1) rfl rfl rfl ?_
        refine h_lload_n (pc' := 2) rfl rfl rfl ?_
        refine h_lcmp (pc' := 3) rfl rfl hz127 cl_0 (fun z133 hz133 => ?_)
        refine h_zlt (tg := 17) (pc' := 6) rfl rfl rfl rfl (fun c134 => ?_) (fun c134 => absurd c134 (by omega))
        replace c134 := (h_lcr hz133).1 c134
        clear hz133
        refine h_iconst (pc' := 18) (x := (Int32.ofInt 0)) rfl rfl rfl ?_
        refine h_zret rfl rfl ci_0 (by omega) (h_Kv ?_)
        clear hz127 hz132
        refine h_zeq (tg := 38) (pc' := 34) rfl rfl rfl ci_0 (fun c135 => ?_) (fun c135 => absurd (Int.le_antisymm (by omega) (by omega)) c135)
        refine h_iconst (pc' := 39) (x := (Int32.ofInt 0)) rfl rfl rfl ?_
        refine h_zret rfl rfl ci_0 (by omega) (h_Kv ?_)
        refine h_zeq (tg := 44) (pc' := 9) rfl rfl rfl ci_0 (fun c136 => ?_) (fun c136 => absurd (Int.le_antisymm (by omega) (by omega)) c136)
        refine h_iconst (pc' := 45) (x := (Int32.ofInt (-1))) rfl rfl rfl ?_
        refine h_iret rfl rfl (h_Kv ?_)
        clear hz118 hz120
        refine h_ceq (tg := 1441) (pc' := 404) rfl rfl rfl ci_m1 ci_m1 (fun c137 => ?_) (fun c137 => absurd (Int.le_antisymm (by omega) (by omega)) c137)
        exact kk _ I0 (by first | exact d_tape.le j0 (Int.le_antisymm (by omega) (by omega)) (by omega) (fun j => rfl) (fun j => rfl) | (exfalso; omega)) (Int.le_antisymm (by omega) (by omega)) j2
      · refine h_iload_n (pc' := 5) rfl rfl rfl ?_
        refine h_aload_n (pc' := 6) rfl rfl rfl ?_
        refine h_getI (pc' := 9) (v := s0 16 2) rfl rfl rfl rfl rfl rfl (fun z138 hz138 => ?_)
        have tz138 := tf_16_2 I0
        refine h_cge (tg := 16) (pc' := 12) rfl rfl rfl hz4 hz138 (fun c139 => ?_) (fun c139 => ?_)
        · clear hz138
          refine h_iconst (pc' := 17) (x := (Int32.ofInt 0)) rfl rfl rfl ?_
          refine h_zret rfl rfl ci_0 (by omega) (h_Kv ?_)
          refine h_zeq (tg := 45) (pc' := 26) rfl rfl rfl ci_0 (fun c140 => ?_) (fun c140 => absurd (Int.le_antisymm (by omega) (by omega)) c140)
          refine h_iconst (pc' := 46) (x := (Int32.ofInt (-1))) rfl rfl rfl ?_
          refine h_iret rfl rfl (h_Kv ?_)
          clear hz2 hz4
          refine h_aload_n (pc' := 388) rfl rfl rfl ?_
          refine h_aload_n (pc' := 389) rfl rfl rfl ?_
          refine h_iload_n (pc' := 390) rfl rfl rfl ?_
          refine h_iconst (pc' := 391) (x := (Int32.ofInt 1)) rfl rfl rfl ?_
          refine h_iadd (pc' := 392) rfl rfl hy3 ci_1 rfl (by omega) (by omega) (fun z141 hz141 => ?_)
          refine h_iald (pc' := 393) (v := s0 0 (b3 + 1)) rfl rfl rfl hz141 (by omega) (by omega) rfl (fun z142 hz142 => ?_)
          have tz142 := h_rgv hz142
          clear hz141
          refine h_aload_n (pc' := 394) rfl rfl rfl ?_
          refine h_iload_n (pc' := 395) rfl rfl rfl ?_
          refine h_iconst (pc' := 396) (x := (Int32.ofInt 2)) rfl rfl rfl ?_
          refine h_iadd (pc' := 397) rfl rfl hy3 ci_2 rfl (by omega) (by omega) (fun z143 hz143 => ?_)
          refine h_iald (pc' := 398) (v := s0 0 (b3 + 2)) rfl rfl rfl hz143 (by omega) (by omega) rfl (fun z144 hz144 => ?_)
          have tz144 := h_rgv hz144
          clear hz143
          refine h_call (sp := false) (pc' := 401) (M := [(0, .ref 98), (1, .int z142), (2, .int z144)]) rfl rfl rfl rfl rfl rfl rfl rfl ?_
          refine h_aload_n (pc' := 1) rfl rfl rfl ?_
          refine h_iload_n (pc' := 2) rfl rfl rfl ?_
          refine h_iload_n (pc' := 3) rfl rfl rfl ?_
          refine h_call (sp := false) (pc' := 6) (M := [(0, .ref 98), (1, .int z142), (2, .int z144)]) rfl rfl rfl rfl rfl rfl rfl rfl ?_
          refine h_iload_n (pc' := 1) rfl rfl rfl ?_
          refine h_i2l (pc' := 2) rfl rfl hz142 (fun z145 hz145 => ?_)
          refine h_lconst (pc' := 3) (x := (Int64.ofInt 0)) rfl rfl rfl ?_
          refine h_lconst (pc' := 4) (x := (Int64.ofInt 1)) rfl rfl rfl ?_
          refine h_calls (pc' := 7) (M := [(0, .long z145), (2, .long (Int64.ofInt 0)), (4, .long (Int64.ofInt 1))]) rfl rfl rfl rfl rfl rfl ?_
          refine h_lload_n (pc' := 1) rfl rfl rfl ?_
          refine h_lload_n (pc' := 2) rfl rfl rfl ?_
          refine h_lcmp (pc' := 3) rfl rfl hz145 cl_0 (fun z146 hz146 => ?_)
          refine h_zlt (tg := 17) (pc' := 6) rfl rfl rfl rfl (fun c147 => absurd c147 (by omega)) (fun c147 => ?_)
          replace c147 := (h_lcr hz146).2.1 c147
          clear hz146
          refine h_lload_n (pc' := 7) rfl rfl rfl ?_
          refine h_lload (pc' := 9) rfl rfl rfl ?_
          refine h_lcmp (pc' := 10) rfl rfl hz145 cl_1 (fun z148 hz148 => ?_)
          refine h_zgt (tg := 17) (pc' := 13) rfl rfl rfl rfl (fun c149 => absurd c149 (by omega)) (fun c149 => ?_)
          replace c149 := (h_lcr hz148).2.2.1 c149
          clear hz148
          refine h_iconst (pc' := 14) (x := (Int32.ofInt 1)) rfl rfl rfl ?_
          refine h_goto (pc' := 18) rfl rfl ?_
          refine h_zret rfl rfl ci_1 (by omega) (h_Kv ?_)
          clear hz145
          refine h_zeq (tg := 38) (pc' := 10) rfl rfl rfl ci_1 (fun c150 => absurd c150 (by omega)) (fun c150 => ?_)
          refine h_iload_n (pc' := 11) rfl rfl rfl ?_
          refine h_i2l (pc' := 12) rfl rfl hz144 (fun z151 hz151 => ?_)
          refine h_lconst (pc' := 13) (x := (Int64.ofInt 0)) rfl rfl rfl ?_
          refine h_aload_n (pc' := 14) rfl rfl rfl ?_
          refine h_getR (pc' := 17) rfl rfl rfl rfl rfl ?_
          refine h_iload_n (pc' := 18) rfl rfl rfl ?_
          refine h_calls (pc' := 21) (M := [(0, .int z142)]) rfl rfl rfl rfl rfl rfl ?_
          refine h_iload_n (pc' := 1) rfl rfl rfl ?_
          refine h_zne (tg := 9) (pc' := 4) rfl rfl rfl hz142 (fun c152 => ?_) (fun c152 => absurd c152 (by omega))
          refine h_bipush (pc' := 11) (x := (Int32.ofInt 19)) rfl rfl cb_19 ?_
          refine h_iret rfl rfl (h_Kv ?_)
          refine h_bipush (pc' := 23) (x := (Int32.ofInt 6)) rfl rfl cb_6 ?_
          refine h_iadd (pc' := 24) (c := 25) rfl rfl ci_19 ci_6 rfl (by omega) (by omega) (fun z153 hz153 => ?_)
          refine h_iald (pc' := 25) (v := s0 99 25) rfl rfl rfl hz153 (by omega) (by omega) rfl (fun z154 hz154 => ?_)
          have tz154 := ty_99_5 I0 25 (by omega)
          clear hz153
          refine h_iconst (pc' := 26) (x := (Int32.ofInt 1)) rfl rfl rfl ?_
          refine h_isub (pc' := 27) rfl rfl hz154 ci_1 rfl (by omega) (by omega) (fun z155 hz155 => ?_)
          clear hz154
          refine h_i2l (pc' := 28) rfl rfl hz155 (fun z156 hz156 => ?_)
          clear hz155
          refine h_calls (pc' := 31) (M := [(0, .long z151), (2, .long (Int64.ofInt 0)), (4, .long z156)]) rfl rfl rfl rfl rfl rfl ?_
          refine h_lload_n (pc' := 1) rfl rfl rfl ?_
          refine h_lload_n (pc' := 2) rfl rfl rfl ?_
          refine h_lcmp (pc' := 3) rfl rfl hz151 cl_0 (fun z157 hz157 => ?_)
          refine h_zlt (tg := 17) (pc' := 6) rfl rfl rfl rfl (fun c158 => absurd c158 (by omega)) (fun c158 => ?_)
          replace c158 := (h_lcr hz157).2.1 c158
          clear hz157
          refine h_lload_n (pc' := 7) rfl rfl rfl ?_
          refine h_lload (pc' := 9) rfl rfl rfl ?_
          refine h_lcmp (pc' := 10) rfl rfl hz151 hz156 (fun z159 hz159 => ?_)
          refine h_zgt (tg := 17) (pc' := 13) rfl rfl rfl rfl (fun c160 => ?_) (fun c160 => absurd c160 (by omega))
          replace c160 := (h_lcr hz159).2.2.2.1 c160
          clear hz159
          refine h_iconst (pc' := 18) (x := (Int32.ofInt 0)) rfl rfl rfl ?_
          refine h_zret rfl rfl ci_0 (by omega) (h_Kv ?_)
          clear hz151 hz156
          refine h_zeq (tg := 38) (pc' := 34) rfl rfl rfl ci_0 (fun c161 => ?_) (fun c161 => absurd (Int.le_antisymm (by omega) (by omega)) c161)
          refine h_iconst (pc' := 39) (x := (Int32.ofInt 0)) rfl rfl rfl ?_
          refine h_zret rfl rfl ci_0 (by omega) (h_Kv ?_)
          refine h_zeq (tg := 44) (pc' := 9) rfl rfl rfl ci_0 (fun c162 => ?_) (fun c162 => absurd (Int.le_antisymm (by omega) (by omega)) c162)
          refine h_iconst (pc' := 45) (x := (Int32.ofInt (-1))) rfl rfl rfl ?_
          refine h_iret rfl rfl (h_Kv ?_)
          clear hz142 hz144
          refine h_ceq (tg := 1441) (pc' := 404) rfl rfl rfl ci_m1 ci_m1 (fun c163 => ?_) (fun c163 => absurd (Int.le_antisymm (by omega) (by omega)) c163)
          exact kk _ I0 (by first | exact d_tape.le j0 (Int.le_antisymm (by omega) (by omega)) (by omega) (fun j => rfl) (fun j => rfl) | (exfalso; omega)) (Int.le_antisymm (by omega) (by omega)) j2
        · clear hz138
          refine h_iconst (pc' := 13) (x := (Int32.ofInt 1)) rfl rfl rfl ?_
          refine h_goto (pc' := 17) rfl rfl ?_
          refine h_zret rfl rfl ci_1 (by omega) (h_Kv ?_)
          refine h_zeq (tg := 45) (pc' := 26) rfl rfl rfl ci_1 (fun c164 => absurd c164 (by omega)) (fun c164 => ?_)
          refine h_bipush (pc' := 28) (x := (Int32.ofInt 10)) rfl rfl cb_10 ?_
          refine h_aload_n (pc' := 29) rfl rfl rfl ?_
          refine h_getR (pc' := 32) rfl rfl rfl rfl rfl ?_
          refine h_iload_n (pc' := 33) rfl rfl rfl ?_
          refine h_iald (pc' := 34) (v := s0 17 (s0 0 (b3 + 2))) rfl rfl rfl hz4 (by omega) (by omega) rfl (fun z165 hz165 => ?_)
          have tz165 := ty_17 I0 (s0 0 (b3 + 2))
          refine h_imul (pc' := 35) rfl rfl ci_10 hz165 rfl (by omega) (by omega) (fun z166 hz166 => ?_)
          clear hz165
          refine h_aload_n (pc' := 36) rfl rfl rfl ?_
          refine h_getR (pc' := 39) rfl rfl rfl rfl rfl ?_
          refine h_iload_n (pc' := 40) rfl rfl rfl ?_
          refine h_iald (pc' := 41) (v := s0 18 (s0 0 (b3 + 2))) rfl rfl rfl hz4 (by omega) (by omega) rfl (fun z167 hz167 => ?_)
          have tz167 := ty_18 I0 (s0 0 (b3 + 2))
          refine h_iadd (pc' := 42) rfl rfl hz166 hz167 rfl (by omega) (by omega) (fun z168 hz168 => ?_)
          clear hz166 hz167
          refine h_goto (pc' := 46) rfl rfl ?_
          refine h_iret rfl rfl (h_Kv ?_)
          clear hz2 hz4
          refine h_aload_n (pc' := 388) rfl rfl rfl ?_
          refine h_aload_n (pc' := 389) rfl rfl rfl ?_
          refine h_iload_n (pc' := 390) rfl rfl rfl ?_
          refine h_iconst (pc' := 391) (x := (Int32.ofInt 1)) rfl rfl rfl ?_
          refine h_iadd (pc' := 392) rfl rfl hy3 ci_1 rfl (by omega) (by omega) (fun z169 hz169 => ?_)
          refine h_iald (pc' := 393) (v := s0 0 (b3 + 1)) rfl rfl rfl hz169 (by omega) (by omega) rfl (fun z170 hz170 => ?_)
          have tz170 := h_rgv hz170
          clear hz169
          refine h_aload_n (pc' := 394) rfl rfl rfl ?_
          refine h_iload_n (pc' := 395) rfl rfl rfl ?_
          refine h_iconst (pc' := 396) (x := (Int32.ofInt 2)) rfl rfl rfl ?_
          refine h_iadd (pc' := 397) rfl rfl hy3 ci_2 rfl (by omega) (by omega) (fun z171 hz171 => ?_)
          refine h_iald (pc' := 398) (v := s0 0 (b3 + 2)) rfl rfl rfl hz171 (by omega) (by omega) rfl (fun z172 hz172 => ?_)
          have tz172 := h_rgv hz172
          clear hz171
          refine h_call (sp := false) (pc' := 401) (M := [(0, .ref 98), (1, .int z170), (2, .int z172)]) rfl rfl rfl rfl rfl rfl rfl rfl ?_
          refine h_aload_n (pc' := 1) rfl rfl rfl ?_
          refine h_iload_n (pc' := 2) rfl rfl rfl ?_
          refine h_iload_n (pc' := 3) rfl rfl rfl ?_
          refine h_call (sp := false) (pc' := 6) (M := [(0, .ref 98), (1, .int z170), (2, .int z172)]) rfl rfl rfl rfl rfl rfl rfl rfl ?_
          refine h_iload_n (pc' := 1) rfl rfl rfl ?_
          refine h_i2l (pc' := 2) rfl rfl hz170 (fun z173 hz173 => ?_)
          refine h_lconst (pc' := 3) (x := (Int64.ofInt 0)) rfl rfl rfl ?_
          refine h_lconst (pc' := 4) (x := (Int64.ofInt 1)) rfl rfl rfl ?_
          refine h_calls (pc' := 7) (M := [(0, .long z173), (2, .long (Int64.ofInt 0)), (4, .long (Int64.ofInt 1))]) rfl rfl rfl rfl rfl rfl ?_
          refine h_lload_n (pc' := 1) rfl rfl rfl ?_
          refine h_lload_n (pc' := 2) rfl rfl rfl ?_
          refine h_lcmp (pc' := 3) rfl rfl hz173 cl_0 (fun z174 hz174 => ?_)
          refine h_zlt (tg := 17) (pc' := 6) rfl rfl rfl rfl (fun c175 => absurd c175 (by omega)) (fun c175 => ?_)
          replace c175 := (h_lcr hz174).2.1 c175
          clear hz174
          refine h_lload_n (pc' := 7) rfl rfl rfl ?_
          refine h_lload (pc' := 9) rfl rfl rfl ?_
          refine h_lcmp (pc' := 10) rfl rfl hz173 cl_1 (fun z176 hz176 => ?_)
          refine h_zgt (tg := 17) (pc' := 13) rfl rfl rfl rfl (fun c177 => absurd c177 (by omega)) (fun c177 => ?_)
          replace c177 := (h_lcr hz176).2.2.1 c177
          clear hz176
          refine h_iconst (pc' := 14) (x := (Int32.ofInt 1)) rfl rfl rfl ?_
          refine h_goto (pc' := 18) rfl rfl ?_
          refine h_zret rfl rfl ci_1 (by omega) (h_Kv ?_)
          clear hz173
          refine h_zeq (tg := 38) (pc' := 10) rfl rfl rfl ci_1 (fun c178 => absurd c178 (by omega)) (fun c178 => ?_)
          refine h_iload_n (pc' := 11) rfl rfl rfl ?_
          refine h_i2l (pc' := 12) rfl rfl hz172 (fun z179 hz179 => ?_)
          refine h_lconst (pc' := 13) (x := (Int64.ofInt 0)) rfl rfl rfl ?_
          refine h_aload_n (pc' := 14) rfl rfl rfl ?_
          refine h_getR (pc' := 17) rfl rfl rfl rfl rfl ?_
          refine h_iload_n (pc' := 18) rfl rfl rfl ?_
          refine h_calls (pc' := 21) (M := [(0, .int z170)]) rfl rfl rfl rfl rfl rfl ?_
          refine h_iload_n (pc' := 1) rfl rfl rfl ?_
          refine h_zne (tg := 9) (pc' := 4) rfl rfl rfl hz170 (fun c180 => ?_) (fun c180 => absurd c180 (by omega))
          refine h_bipush (pc' := 11) (x := (Int32.ofInt 19)) rfl rfl cb_19 ?_
          refine h_iret rfl rfl (h_Kv ?_)
          refine h_bipush (pc' := 23) (x := (Int32.ofInt 6)) rfl rfl cb_6 ?_
          refine h_iadd (pc' := 24) (c := 25) rfl rfl ci_19 ci_6 rfl (by omega) (by omega) (fun z181 hz181 => ?_)
          refine h_iald (pc' := 25) (v := s0 99 25) rfl rfl rfl hz181 (by omega) (by omega) rfl (fun z182 hz182 => ?_)
          have tz182 := ty_99_5 I0 25 (by omega)
          clear hz181
          refine h_iconst (pc' := 26) (x := (Int32.ofInt 1)) rfl rfl rfl ?_
          refine h_isub (pc' := 27) rfl rfl hz182 ci_1 rfl (by omega) (by omega) (fun z183 hz183 => ?_)
          clear hz182
          refine h_i2l (pc' := 28) rfl rfl hz183 (fun z184 hz184 => ?_)
          clear hz183
          refine h_calls (pc' := 31) (M := [(0, .long z179), (2, .long (Int64.ofInt 0)), (4, .long z184)]) rfl rfl rfl rfl rfl rfl ?_
          refine h_lload_n (pc' := 1) rfl rfl rfl ?_
          refine h_lload_n (pc' := 2) rfl rfl rfl ?_
          refine h_lcmp (pc' := 3) rfl rfl hz179 cl_0 (fun z185 hz185 => ?_)
          refine h_zlt (tg := 17) (pc' := 6) rfl rfl rfl rfl (fun c186 => absurd c186 (by omega)) (fun c186 => ?_)
          replace c186 := (h_lcr hz185).2.1 c186
          clear hz185
          refine h_lload_n (pc' := 7) rfl rfl rfl ?_
          refine h_lload (pc' := 9) rfl rfl rfl ?_
          refine h_lcmp (pc' := 10) rfl rfl hz179 hz184 (fun z187 hz187 => ?_)
          refine h_zgt (tg := 17) (pc' := 13) rfl rfl rfl rfl (fun c188 => absurd c188 (by omega)) (fun c188 => ?_)
          replace c188 := (h_lcr hz187).2.2.1 c188
          clear hz187
          refine h_iconst (pc' := 14) (x := (Int32.ofInt 1)) rfl rfl rfl ?_
          refine h_goto (pc' := 18) rfl rfl ?_
          refine h_zret rfl rfl ci_1 (by omega) (h_Kv ?_)
          clear hz179 hz184
          refine h_zeq (tg := 38) (pc' := 34) rfl rfl rfl ci_1 (fun c189 => absurd c189 (by omega)) (fun c189 => ?_)
          refine h_iconst (pc' := 35) (x := (Int32.ofInt 1)) rfl rfl rfl ?_
          refine h_goto (pc' := 39) rfl rfl ?_
          refine h_zret rfl rfl ci_1 (by omega) (h_Kv ?_)
          refine h_zeq (tg := 44) (pc' := 9) rfl rfl rfl ci_1 (fun c190 => absurd c190 (by omega)) (fun c190 => ?_)
          refine h_bipush (pc' := 11) (x := (Int32.ofInt 10)) rfl rfl cb_10 ?_
          refine h_aload_n (pc' := 12) rfl rfl rfl ?_
          refine h_getR (pc' := 15) rfl rfl rfl rfl rfl ?_
          refine h_iload_n (pc' := 16) rfl rfl rfl ?_
          refine h_calls (pc' := 19) (M := [(0, .int z170)]) rfl rfl rfl rfl rfl rfl ?_
          refine h_iload_n (pc' := 1) rfl rfl rfl ?_
          refine h_zne (tg := 9) (pc' := 4) rfl rfl rfl hz170 (fun c191 => ?_) (fun c191 => absurd c191 (by omega))
          refine h_bipush (pc' := 11) (x := (Int32.ofInt 19)) rfl rfl cb_19 ?_
          refine h_iret rfl rfl (h_Kv ?_)
          refine h_iconst (pc' := 20) (x := (Int32.ofInt 2)) rfl rfl rfl ?_
          refine h_iload_n (pc' := 21) rfl rfl rfl ?_
          refine h_imul (pc' := 22) rfl rfl ci_2 hz172 rfl (by have g0 := h_rgv hz172; omega) (by have g0 := h_rgv hz172; omega) (fun z192 hz192 => ?_)
          refine h_iadd (pc' := 23) rfl rfl ci_19 hz192 rfl (by omega) (by omega) (fun z193 hz193 => ?_)
          clear hz192
          refine h_iald (pc' := 24) (v := s0 99 (19 + (2 * (s0 0 (b3 + 2))))) rfl rfl rfl hz193 (by omega) (by omega) rfl (fun z194 hz194 => ?_)
          have tz194 := ty_99_4 I0 (19 + (2 * (s0 0 (b3 + 2)))) (by omega)
          clear hz193
          refine h_imul (pc' := 25) rfl rfl ci_10 hz194 rfl (by omega) (by omega) (fun z195 hz195 => ?_)
          clear hz194
          refine h_aload_n (pc' := 26) rfl rfl rfl ?_
          refine h_getR (pc' := 29) rfl rfl rfl rfl rfl ?_
          refine h_iload_n (pc' := 30) rfl rfl rfl ?_
          refine h_calls (pc' := 33) (M := [(0, .int z170)]) rfl rfl rfl rfl rfl rfl ?_
          refine h_iload_n (pc' := 1) rfl rfl rfl ?_
          refine h_zne (tg := 9) (pc' := 4) rfl rfl rfl hz170 (fun c196 => ?_) (fun c196 => absurd c196 (by omega))
          refine h_bipush (pc' := 11) (x := (Int32.ofInt 19)) rfl rfl cb_19 ?_
          refine h_iret rfl rfl (h_Kv ?_)
          refine h_iconst (pc' := 34) (x := (Int32.ofInt 2)) rfl rfl rfl ?_
          refine h_iload_n (pc' := 35) rfl rfl rfl ?_
          refine h_imul (pc' := 36) rfl rfl ci_2 hz172 rfl (by have g0 := h_rgv hz172; omega) (by have g0 := h_rgv hz172; omega) (fun z197 hz197 => ?_)
          refine h_iadd (pc' := 37) rfl rfl ci_19 hz197 rfl (by omega) (by omega) (fun z198 hz198 => ?_)
          clear hz197
          refine h_iconst (pc' := 38) (x := (Int32.ofInt 1)) rfl rfl rfl ?_
          refine h_iadd (pc' := 39) rfl rfl hz198 ci_1 rfl (by omega) (by omega) (fun z199 hz199 => ?_)
          clear hz198
          refine h_iald (pc' := 40) (v := s0 99 ((19 + (2 * (s0 0 (b3 + 2)))) + 1)) rfl rfl rfl hz199 (by omega) (by omega) rfl (fun z200 hz200 => ?_)
          have tz200 := ty_99_4 I0 ((19 + (2 * (s0 0 (b3 + 2)))) + 1) (by omega)
          clear hz199
          refine h_iadd (pc' := 41) rfl rfl hz195 hz200 rfl (by omega) (by omega) (fun z201 hz201 => ?_)
          clear hz195 hz200
          refine h_goto (pc' := 45) rfl rfl ?_
          refine h_iret rfl rfl (h_Kv ?_)
          clear hz170 hz172
          refine h_ceq (tg := 1441) (pc' := 404) rfl rfl rfl hz168 hz201 (fun c202 => ?_) (fun c202 => ?_)
          · clear hz168 hz201
            exact kk _ I0 (by first | exact d_tape.le j0 (Int.le_antisymm (by omega) (by omega)) (by omega) (fun j => rfl) (fun j => rfl) | (exfalso; omega)) (Int.le_antisymm (by omega) (by omega)) j2
          · clear hz168 hz201
            refine h_iconst (pc' := 405) (x := (Int32.ofInt 0)) rfl rfl rfl ?_
            first | have ga := j2.mr (j := s0 0 (b3 + 2)) (by omega) (by omega) | skip
            first | have gb := j2.fe (j := s0 0 (b3 + 2)) (by omega) (by omega) | skip
            exfalso
            omega
