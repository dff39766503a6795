set_option maxHeartbeats 100000000 in
theorem g_case_495 {ns : Nat} (hns : ns ≤ 320) (s0 : h_S) (I0 : h_I s0) (j0 : d_tape s0 s0) (j1 : s0 64 4 = s0 98 16) (j2 : c_R false s0) (y3 : Int32) (b3 : Int) (hy3 : y3.toInt = b3) (hr : 0 ≤ b3 ∧ b3 + 5 ≤ ns) {Q : Option Value → h_S → Prop} (kk : ∀ τ, h_I τ → (d_tape τ τ) → (τ 64 4 = τ 98 16) → (c_R false τ) → h_T g_P (g_Y ns) 225 1441 [(0, .ref 0), (1, .ref 9), (2, .ref 98), (3, .int y3)] [] τ Q) : h_T g_P (g_Y ns) 225 495 [(0, .ref 0), (1, .ref 9), (2, .ref 98), (3, .int y3)] [] s0 Q := by
  have F0_ : h_F (fun _ _ => true) s0 s0 := h_F.rf
  have j0_ := j0.2
  have i0 := tf_64_1 I0
  have i1 := tf_98_11 I0
  have i2 := tf_64_4 I0
  have i3 := tf_98_16 I0
  have i4 := tf_10_8 I0
  have i5 := tf_98_1 I0
  have j2_ := j2.sz
  refine h_aload_n (pc' := 496) rfl rfl rfl ?_
  refine h_aload_n (pc' := 497) rfl rfl rfl ?_
  refine h_iload_n (pc' := 498) rfl rfl rfl ?_
  refine h_iconst (pc' := 499) (x := (Int32.ofInt 1)) rfl rfl rfl ?_
  refine h_iadd (pc' := 500) rfl rfl hy3 ci_1 rfl (by omega) (by omega) (fun z1 hz1 => ?_)
  refine h_iald (pc' := 501) (v := s0 0 (b3 + 1)) rfl rfl rfl hz1 (by omega) (by omega) rfl (fun z2 hz2 => ?_)
  have tz2 := h_rgv hz2
  clear hz1
  refine h_aload_n (pc' := 502) rfl rfl rfl ?_
  refine h_iload_n (pc' := 503) rfl rfl rfl ?_
  refine h_iconst (pc' := 504) (x := (Int32.ofInt 2)) rfl rfl rfl ?_
  refine h_iadd (pc' := 505) rfl rfl hy3 ci_2 rfl (by omega) (by omega) (fun z3 hz3 => ?_)
  refine h_iald (pc' := 506) (v := s0 0 (b3 + 2)) rfl rfl rfl hz3 (by omega) (by omega) rfl (fun z4 hz4 => ?_)
  have tz4 := h_rgv hz4
  clear hz3
  refine h_aload_n (pc' := 507) rfl rfl rfl ?_
  refine h_iload_n (pc' := 508) rfl rfl rfl ?_
  refine h_iconst (pc' := 509) (x := (Int32.ofInt 3)) rfl rfl rfl ?_
  refine h_iadd (pc' := 510) rfl rfl hy3 ci_3 rfl (by omega) (by omega) (fun z5 hz5 => ?_)
  refine h_iald (pc' := 511) (v := s0 0 (b3 + 3)) rfl rfl rfl hz5 (by omega) (by omega) rfl (fun z6 hz6 => ?_)
  have tz6 := h_rgv hz6
  clear hz5
  refine h_call (sp := false) (pc' := 514) (M := [(0, .ref 9), (1, .int z2), (2, .int z4), (3, .int z6)]) rfl rfl rfl rfl rfl rfl rfl rfl ?_
  refine h_aload_n (pc' := 1) rfl rfl rfl ?_
  refine h_getR (pc' := 4) rfl rfl rfl rfl rfl ?_
  refine h_iload_n (pc' := 5) rfl rfl rfl ?_
  refine h_call (sp := false) (pc' := 8) (M := [(0, .ref 10), (1, .int z2)]) rfl rfl rfl rfl rfl rfl rfl rfl ?_
  refine h_iload_n (pc' := 1) rfl rfl rfl ?_
  refine h_zlt (tg := 16) (pc' := 4) rfl rfl rfl hz2 (fun c7 => ?_) (fun c7 => ?_)
  · refine h_iconst (pc' := 17) (x := (Int32.ofInt 0)) rfl rfl rfl ?_
    refine h_zret rfl rfl ci_0 (by omega) (h_Kv ?_)
    refine h_zne (tg := 13) (pc' := 11) rfl rfl rfl ci_0 (fun c8 => absurd (Int.le_antisymm (by omega) (by omega)) c8) (fun c8 => ?_)
    refine h_iconst (pc' := 12) (x := (Int32.ofInt (-1))) rfl rfl rfl ?_
    refine h_iret rfl rfl (h_Kv ?_)
    clear hz2 hz4 hz6
    refine h_aload_n (pc' := 515) rfl rfl rfl ?_
    refine h_aload_n (pc' := 516) rfl rfl rfl ?_
    refine h_iload_n (pc' := 517) rfl rfl rfl ?_
    refine h_iconst (pc' := 518) (x := (Int32.ofInt 1)) rfl rfl rfl ?_
    refine h_iadd (pc' := 519) rfl rfl hy3 ci_1 rfl (by omega) (by omega) (fun z9 hz9 => ?_)
    refine h_iald (pc' := 520) (v := s0 0 (b3 + 1)) rfl rfl rfl hz9 (by omega) (by omega) rfl (fun z10 hz10 => ?_)
    have tz10 := h_rgv hz10
    clear hz9
    refine h_aload_n (pc' := 521) rfl rfl rfl ?_
    refine h_iload_n (pc' := 522) rfl rfl rfl ?_
    refine h_iconst (pc' := 523) (x := (Int32.ofInt 2)) rfl rfl rfl ?_
    refine h_iadd (pc' := 524) rfl rfl hy3 ci_2 rfl (by omega) (by omega) (fun z11 hz11 => ?_)
    refine h_iald (pc' := 525) (v := s0 0 (b3 + 2)) rfl rfl rfl hz11 (by omega) (by omega) rfl (fun z12 hz12 => ?_)
    have tz12 := h_rgv hz12
    clear hz11
    refine h_aload_n (pc' := 526) rfl rfl rfl ?_
    refine h_iload_n (pc' := 527) rfl rfl rfl ?_
    refine h_iconst (pc' := 528) (x := (Int32.ofInt 3)) rfl rfl rfl ?_
    refine h_iadd (pc' := 529) rfl rfl hy3 ci_3 rfl (by omega) (by omega) (fun z13 hz13 => ?_)
    refine h_iald (pc' := 530) (v := s0 0 (b3 + 3)) rfl rfl rfl hz13 (by omega) (by omega) rfl (fun z14 hz14 => ?_)
    have tz14 := h_rgv hz14
    clear hz13
    refine h_call (sp := false) (pc' := 533) (M := [(0, .ref 98), (1, .int z10), (2, .int z12), (3, .int z14)]) rfl rfl rfl rfl rfl rfl rfl rfl ?_
    refine h_iload_n (pc' := 1) rfl rfl rfl ?_
    refine h_iconst (pc' := 2) (x := (Int32.ofInt 1)) rfl rfl rfl ?_
    refine h_cne (tg := 48) (pc' := 5) rfl rfl rfl hz12 ci_1 (fun c15 => ?_) (fun c15 => ?_)
    · refine h_aload_n (pc' := 49) rfl rfl rfl ?_
      refine h_aload_n (pc' := 50) rfl rfl rfl ?_
      refine h_iload_n (pc' := 51) rfl rfl rfl ?_
      refine h_call (sp := false) (pc' := 54) (M := [(0, .ref 98), (1, .int z10)]) rfl rfl rfl rfl rfl rfl rfl rfl ?_
      refine h_iload_n (pc' := 1) rfl rfl rfl ?_
      refine h_i2l (pc' := 2) rfl rfl hz10 (fun z16 hz16 => ?_)
      refine h_lconst (pc' := 3) (x := (Int64.ofInt 0)) rfl rfl rfl ?_
      refine h_aload_n (pc' := 4) rfl rfl rfl ?_
      refine h_getI (pc' := 7) (v := s0 98 1) rfl rfl rfl rfl rfl rfl (fun z17 hz17 => ?_)
      have tz17 := tf_98_1 I0
      refine h_iconst (pc' := 8) (x := (Int32.ofInt 1)) rfl rfl rfl ?_
      refine h_isub (pc' := 9) rfl rfl hz17 ci_1 rfl (by omega) (by omega) (fun z18 hz18 => ?_)
      clear hz17
      refine h_i2l (pc' := 10) rfl rfl hz18 (fun z19 hz19 => ?_)
      clear hz18
      refine h_calls (pc' := 13) (M := [(0, .long z16), (2, .long (Int64.ofInt 0)), (4, .long z19)]) rfl rfl rfl rfl rfl rfl ?_
      refine h_lload_n (pc' := 1) rfl rfl rfl ?_
      refine h_lload_n (pc' := 2) rfl rfl rfl ?_
      refine h_lcmp (pc' := 3) rfl rfl hz16 cl_0 (fun z20 hz20 => ?_)
      refine h_zlt (tg := 17) (pc' := 6) rfl rfl rfl rfl (fun c21 => ?_) (fun c21 => absurd c21 (by omega))
      replace c21 := (h_lcr hz20).1 c21
      clear hz20
      refine h_iconst (pc' := 18) (x := (Int32.ofInt 0)) rfl rfl rfl ?_
      refine h_zret rfl rfl ci_0 (by omega) (h_Kv ?_)
      clear hz16 hz19
      refine h_zret rfl rfl ci_0 (by omega) (h_Kv ?_)
      refine h_zeq (tg := 77) (pc' := 57) rfl rfl rfl ci_0 (fun c22 => ?_) (fun c22 => absurd (Int.le_antisymm (by omega) (by omega)) c22)
      refine h_iconst (pc' := 78) (x := (Int32.ofInt 0)) rfl rfl rfl ?_
      refine h_iload_n (pc' := 79) rfl rfl rfl ?_
      refine h_iload_n (pc' := 80) rfl rfl rfl ?_
      refine h_iconst (pc' := 81) (x := (Int32.ofInt 0)) rfl rfl rfl ?_
      refine h_call (sp := false) (pc' := 84) (M := [(0, .ref 98), (1, .int (Int32.ofInt 0)), (2, .int z10), (3, .int z14), (4, .int (Int32.ofInt 0))]) rfl rfl rfl rfl rfl rfl rfl rfl ?_
      refine h_iload_n (pc' := 1) rfl rfl rfl ?_
      refine h_zne (tg := 6) (pc' := 4) rfl rfl rfl ci_0 (fun c23 => absurd (Int.le_antisymm (by omega) (by omega)) c23) (fun c23 => ?_)
      refine h_iconst (pc' := 5) (x := (Int32.ofInt (-1))) rfl rfl rfl ?_
      refine h_iret rfl rfl (h_Kv ?_)
      refine h_iret rfl rfl (h_Kv ?_)
      clear hz10 hz12 hz14
      refine h_ceq (tg := 1441) (pc' := 536) rfl rfl rfl ci_m1 ci_m1 (fun c24 => ?_) (fun c24 => absurd (Int.le_antisymm (by omega) (by omega)) c24)
      exact kk _ I0 (by first | exact d_tape.le j0 (Int.le_antisymm (by omega) (by omega)) (by omega) (fun j => rfl) (fun j => rfl) | (exfalso; omega)) (Int.le_antisymm (by omega) (by omega)) j2
    · refine h_aload_n (pc' := 6) rfl rfl rfl ?_
      refine h_aload_n (pc' := 7) rfl rfl rfl ?_
      refine h_iload_n (pc' := 8) rfl rfl rfl ?_
      refine h_call (sp := false) (pc' := 11) (M := [(0, .ref 98), (1, .int z10)]) rfl rfl rfl rfl rfl rfl rfl rfl ?_
      refine h_iload_n (pc' := 1) rfl rfl rfl ?_
      refine h_i2l (pc' := 2) rfl rfl hz10 (fun z25 hz25 => ?_)
      refine h_lconst (pc' := 3) (x := (Int64.ofInt 0)) rfl rfl rfl ?_
      refine h_aload_n (pc' := 4) rfl rfl rfl ?_
      refine h_getI (pc' := 7) (v := s0 98 1) rfl rfl rfl rfl rfl rfl (fun z26 hz26 => ?_)
      have tz26 := tf_98_1 I0
      refine h_iconst (pc' := 8) (x := (Int32.ofInt 1)) rfl rfl rfl ?_
      refine h_isub (pc' := 9) rfl rfl hz26 ci_1 rfl (by omega) (by omega) (fun z27 hz27 => ?_)
      clear hz26
      refine h_i2l (pc' := 10) rfl rfl hz27 (fun z28 hz28 => ?_)
      clear hz27
      refine h_calls (pc' := 13) (M := [(0, .long z25), (2, .long (Int64.ofInt 0)), (4, .long z28)]) rfl rfl rfl rfl rfl rfl ?_
      refine h_lload_n (pc' := 1) rfl rfl rfl ?_
      refine h_lload_n (pc' := 2) rfl rfl rfl ?_
      refine h_lcmp (pc' := 3) rfl rfl hz25 cl_0 (fun z29 hz29 => ?_)
      refine h_zlt (tg := 17) (pc' := 6) rfl rfl rfl rfl (fun c30 => ?_) (fun c30 => absurd c30 (by omega))
      replace c30 := (h_lcr hz29).1 c30
      clear hz29
      refine h_iconst (pc' := 18) (x := (Int32.ofInt 0)) rfl rfl rfl ?_
      refine h_zret rfl rfl ci_0 (by omega) (h_Kv ?_)
      clear hz25 hz28
      refine h_zret rfl rfl ci_0 (by omega) (h_Kv ?_)
      refine h_zeq (tg := 37) (pc' := 14) rfl rfl rfl ci_0 (fun c31 => ?_) (fun c31 => absurd (Int.le_antisymm (by omega) (by omega)) c31)
      refine h_iconst (pc' := 38) (x := (Int32.ofInt 0)) rfl rfl rfl ?_
      refine h_bipush (pc' := 40) (x := (Int32.ofInt 6)) rfl rfl cb_6 ?_
      refine h_iload_n (pc' := 41) rfl rfl rfl ?_
      refine h_iadd (pc' := 42) rfl rfl ci_6 hz10 rfl (by have g0 := h_rgv hz10; omega) (by have g0 := h_rgv hz10; omega) (fun z32 hz32 => ?_)
      refine h_iload_n (pc' := 43) rfl rfl rfl ?_
      refine h_iconst (pc' := 44) (x := (Int32.ofInt 1)) rfl rfl rfl ?_
      refine h_call (sp := false) (pc' := 47) (M := [(0, .ref 98), (1, .int (Int32.ofInt 0)), (2, .int z32), (3, .int z14), (4, .int (Int32.ofInt 1))]) rfl rfl rfl rfl rfl rfl rfl rfl ?_
      refine h_iload_n (pc' := 1) rfl rfl rfl ?_
      refine h_zne (tg := 6) (pc' := 4) rfl rfl rfl ci_0 (fun c33 => absurd (Int.le_antisymm (by omega) (by omega)) c33) (fun c33 => ?_)
      refine h_iconst (pc' := 5) (x := (Int32.ofInt (-1))) rfl rfl rfl ?_
      refine h_iret rfl rfl (h_Kv ?_)
      clear hz32
      refine h_iret rfl rfl (h_Kv ?_)
      clear hz10 hz12 hz14
      refine h_ceq (tg := 1441) (pc' := 536) rfl rfl rfl ci_m1 ci_m1 (fun c34 => ?_) (fun c34 => absurd (Int.le_antisymm (by omega) (by omega)) c34)
      exact kk _ I0 (by first | exact d_tape.le j0 (Int.le_antisymm (by omega) (by omega)) (by omega) (fun j => rfl) (fun j => rfl) | (exfalso; omega)) (Int.le_antisymm (by omega) (by omega)) j2
  · refine h_iload_n (pc' := 5) rfl rfl rfl ?_
    refine h_aload_n (pc' := 6) rfl rfl rfl ?_
    refine h_getI (pc' := 9) (v := s0 10 8) rfl rfl rfl rfl rfl rfl (fun z35 hz35 => ?_)
    have tz35 := tf_10_8 I0
    refine h_cge (tg := 16) (pc' := 12) rfl rfl rfl hz2 hz35 (fun c36 => ?_) (fun c36 => ?_)
    · clear hz35
      refine h_iconst (pc' := 17) (x := (Int32.ofInt 0)) rfl rfl rfl ?_
      refine h_zret rfl rfl ci_0 (by omega) (h_Kv ?_)
      refine h_zne (tg := 13) (pc' := 11) rfl rfl rfl ci_0 (fun c37 => absurd (Int.le_antisymm (by omega) (by omega)) c37) (fun c37 => ?_)
      refine h_iconst (pc' := 12) (x := (Int32.ofInt (-1))) rfl rfl rfl ?_
      refine h_iret rfl rfl (h_Kv ?_)
      clear hz2 hz4 hz6
      refine h_aload_n (pc' := 515) rfl rfl rfl ?_
      refine h_aload_n (pc' := 516) rfl rfl rfl ?_
      refine h_iload_n (pc' := 517) rfl rfl rfl ?_
      refine h_iconst (pc' := 518) (x := (Int32.ofInt 1)) rfl rfl rfl ?_
      refine h_iadd (pc' := 519) rfl rfl hy3 ci_1 rfl (by omega) (by omega) (fun z38 hz38 => ?_)
      refine h_iald (pc' := 520) (v := s0 0 (b3 + 1)) rfl rfl rfl hz38 (by omega) (by omega) rfl (fun z39 hz39 => ?_)
      have tz39 := h_rgv hz39
      clear hz38
      refine h_aload_n (pc' := 521) rfl rfl rfl ?_
      refine h_iload_n (pc' := 522) rfl rfl rfl ?_
      refine h_iconst (pc' := 523) (x := (Int32.ofInt 2)) rfl rfl rfl ?_
      refine h_iadd (pc' := 524) rfl rfl hy3 ci_2 rfl (by omega) (by omega) (fun z40 hz40 => ?_)
      refine h_iald (pc' := 525) (v := s0 0 (b3 + 2)) rfl rfl rfl hz40 (by omega) (by omega) rfl (fun z41 hz41 => ?_)
      have tz41 := h_rgv hz41
      clear hz40
      refine h_aload_n (pc' := 526) rfl rfl rfl ?_
      refine h_iload_n (pc' := 527) rfl rfl rfl ?_
      refine h_iconst (pc' := 528) (x := (Int32.ofInt 3)) rfl rfl rfl ?_
      refine h_iadd (pc' := 529) rfl rfl hy3 ci_3 rfl (by omega) (by omega) (fun z42 hz42 => ?_)
      refine h_iald (pc' := 530) (v := s0 0 (b3 + 3)) rfl rfl rfl hz42 (by omega) (by omega) rfl (fun z43 hz43 => ?_)
      have tz43 := h_rgv hz43
      clear hz42
      refine h_call (sp := false) (pc' := 533) (M := [(0, .ref 98), (1, .int z39), (2, .int z41), (3, .int z43)]) rfl rfl rfl rfl rfl rfl rfl rfl ?_
      refine h_iload_n (pc' := 1) rfl rfl rfl ?_
      refine h_iconst (pc' := 2) (x := (Int32.ofInt 1)) rfl rfl rfl ?_
      refine h_cne (tg := 48) (pc' := 5) rfl rfl rfl hz41 ci_1 (fun c44 => ?_) (fun c44 => ?_)
      · refine h_aload_n (pc' := 49) rfl rfl rfl ?_
        refine h_aload_n (pc' := 50) rfl rfl rfl ?_
        refine h_iload_n (pc' := 51) rfl rfl rfl ?_
        refine h_call (sp := false) (pc' := 54) (M := [(0, .ref 98), (1, .int z39)]) rfl rfl rfl rfl rfl rfl rfl rfl ?_
        refine h_iload_n (pc' := 1) rfl rfl rfl ?_
        refine h_i2l (pc' := 2) rfl rfl hz39 (fun z45 hz45 => ?_)
        refine h_lconst (pc' := 3) (x := (Int64.ofInt 0)) rfl rfl rfl ?_
        refine h_aload_n (pc' := 4) rfl rfl rfl ?_
        refine h_getI (pc' := 7) (v := s0 98 1) rfl rfl rfl rfl rfl rfl (fun z46 hz46 => ?_)
        have tz46 := tf_98_1 I0
        refine h_iconst (pc' := 8) (x := (Int32.ofInt 1)) rfl rfl rfl ?_
        refine h_isub (pc' := 9) rfl rfl hz46 ci_1 rfl (by omega) (by omega) (fun z47 hz47 => ?_)
        clear hz46
        refine h_i2l (pc' := 10) rfl rfl hz47 (fun z48 hz48 => ?_)
        clear hz47
        refine h_calls (pc' := 13) (M := [(0, .long z45), (2, .long (Int64.ofInt 0)), (4, .long z48)]) rfl rfl rfl rfl rfl rfl ?_
        refine h_lload_n (pc' := 1) rfl rfl rfl ?_
        refine h_lload_n (pc' := 2) rfl rfl rfl ?_
        refine h_lcmp (pc' := 3) rfl rfl hz45 cl_0 (fun z49 hz49 => ?_)
        refine h_zlt (tg := 17) (pc' := 6) rfl rfl rfl rfl (fun c50 => absurd c50 (by omega)) (fun c50 => ?_)
        replace c50 := (h_lcr hz49).2.1 c50
        clear hz49
        refine h_lload_n (pc' := 7) rfl rfl rfl ?_
        refine h_lload (pc' := 9) rfl rfl rfl ?_
        refine h_lcmp (pc' := 10) rfl rfl hz45 hz48 (fun z51 hz51 => ?_)
        refine h_zgt (tg := 17) (pc' := 13) rfl rfl rfl rfl (fun c52 => ?_) (fun c52 => absurd c52 (by omega))
        replace c52 := (h_lcr hz51).2.2.2.1 c52
        clear hz51
        refine h_iconst (pc' := 18) (x := (Int32.ofInt 0)) rfl rfl rfl ?_
        refine h_zret rfl rfl ci_0 (by omega) (h_Kv ?_)
        clear hz45 hz48
        refine h_zret rfl rfl ci_0 (by omega) (h_Kv ?_)
        refine h_zeq (tg := 77) (pc' := 57) rfl rfl rfl ci_0 (fun c53 => ?_) (fun c53 => absurd (Int.le_antisymm (by omega) (by omega)) c53)
        refine h_iconst (pc' := 78) (x := (Int32.ofInt 0)) rfl rfl rfl ?_
        refine h_iload_n (pc' := 79) rfl rfl rfl ?_
        refine h_iload_n (pc' := 80) rfl rfl rfl ?_
        refine h_iconst (pc' := 81) (x := (Int32.ofInt 0)) rfl rfl rfl ?_
        refine h_call (sp := false) (pc' := 84) (M := [(0, .ref 98), (1, .int (Int32.ofInt 0)), (2, .int z39), (3, .int z43), (4, .int (Int32.ofInt 0))]) rfl rfl rfl rfl rfl rfl rfl rfl ?_
        refine h_iload_n (pc' := 1) rfl rfl rfl ?_
        refine h_zne (tg := 6) (pc' := 4) rfl rfl rfl ci_0 (fun c54 => absurd (Int.le_antisymm (by omega) (by omega)) c54) (fun c54 => ?_)
        refine h_iconst (pc' := 5) (x := (Int32.ofInt (-1))) rfl rfl rfl ?_
        refine h_iret rfl rfl (h_Kv ?_)
        refine h_iret rfl rfl (h_Kv ?_)
        clear hz39 hz41 hz43
        refine h_ceq (tg := 1441) (pc' := 536) rfl rfl rfl ci_m1 ci_m1 (fun c55 => ?_) (fun c55 => absurd (Int.le_antisymm (by omega) (by omega)) c55)
        exact kk _ I0 (by first | exact d_tape.le j0 (Int.le_antisymm (by omega) (by omega)) (by omega) (fun j => rfl) (fun j => rfl) | (exfalso; omega)) (Int.le_antisymm (by omega) (by omega)) j2
      · refine h_aload_n (pc' := 6) rfl rfl rfl ?_
        refine h_aload_n (pc' := 7) rfl rfl rfl ?_
        refine h_iload_n (pc' := 8) rfl rfl rfl ?_
        refine h_call (sp := false) (pc' := 11) (M := [(0, .ref 98), (1, .int z39)]) rfl rfl rfl rfl rfl rfl rfl rfl ?_
        refine h_iload_n (pc' := 1) rfl rfl rfl ?_
        refine h_i2l (pc' := 2) rfl rfl hz39 (fun z56 hz56 => ?_)
        refine h_lconst (pc' := 3) (x := (Int64.ofInt 0)) rfl rfl rfl ?_
        refine h_aload_n (pc' := 4) rfl rfl rfl ?_
        refine h_getI (pc' := 7) (v := s0 98 1) rfl rfl rfl rfl rfl rfl (fun z57 hz57 => ?_)
        have tz57 := tf_98_1 I0
        refine h_iconst (pc' := 8) (x := (Int32.ofInt 1)) rfl rfl rfl ?_
        refine h_isub (pc' := 9) rfl rfl hz57 ci_1 rfl (by omega) (by omega) (fun z58 hz58 => ?_)
        clear hz57
        refine h_i2l (pc' := 10) rfl rfl hz58 (fun z59 hz59 => ?_)
        clear hz58
        refine h_calls (pc' := 13) (M := [(0, .long z56), (2, .long (Int64.ofInt 0)), (4, .long z59)]) rfl rfl rfl rfl rfl rfl ?_
        refine h_lload_n (pc' := 1) rfl rfl rfl ?_
        refine h_lload_n (pc' := 2) rfl rfl rfl ?_
        refine h_lcmp (pc' := 3) rfl rfl hz56 cl_0 (fun z60 hz60 => ?_)
        refine h_zlt (tg := 17) (pc' := 6) rfl rfl rfl rfl (fun c61 => absurd c61 (by omega)) (fun c61 => ?_)
        replace c61 := (h_lcr hz60).2.1 c61
        clear hz60
        refine h_lload_n (pc' := 7) rfl rfl rfl ?_
        refine h_lload (pc' := 9) rfl rfl rfl ?_
        refine h_lcmp (pc' := 10) rfl rfl hz56 hz59 (fun z62 hz62 => ?_)
        refine h_zgt (tg := 17) (pc' := 13) rfl rfl rfl rfl (fun c63 => ?_) (fun c63 => absurd c63 (by omega))
        replace c63 := (h_lcr hz62).2.2.2.1 c63
        clear hz62
        refine h_iconst (pc' := 18) (x := (Int32.ofInt 0)) rfl rfl rfl ?_
        refine h_zret rfl rfl ci_0 (by omega) (h_Kv ?_)
        clear hz56 hz59
        refine h_zret rfl rfl ci_0 (by omega) (h_Kv ?_)
        refine h_zeq (tg := 37) (pc' := 14) rfl rfl rfl ci_0 (fun c64 => ?_) (fun c64 => absurd (Int.le_antisymm (by omega) (by omega)) c64)
        refine h_iconst (pc' := 38) (x := (Int32.ofInt 0)) rfl rfl rfl ?_
        refine h_bipush (pc' := 40) (x := (Int32.ofInt 6)) rfl rfl cb_6 ?_
        refine h_iload_n (pc' := 41) rfl rfl rfl ?_
        refine h_iaddA (pc' := 42) rfl rfl (fun z65 hz65 => ?_)
        refine h_iload_n (pc' := 43) rfl rfl rfl ?_
        refine h_iconst (pc' := 44) (x := (Int32.ofInt 1)) rfl rfl rfl ?_
        refine h_call (sp := false) (pc' := 47) (M := [(0, .ref 98), (1, .int (Int32.ofInt 0)), (2, .int z65), (3, .int z43), (4, .int (Int32.ofInt 1))]) rfl rfl rfl rfl rfl rfl rfl rfl ?_
        refine h_iload_n (pc' := 1) rfl rfl rfl ?_
        refine h_zne (tg := 6) (pc' := 4) rfl rfl rfl ci_0 (fun c66 => absurd (Int.le_antisymm (by omega) (by omega)) c66) (fun c66 => ?_)
        refine h_iconst (pc' := 5) (x := (Int32.ofInt (-1))) rfl rfl rfl ?_
        refine h_iret rfl rfl (h_Kv ?_)
        refine h_iret rfl rfl (h_Kv ?_)
        clear hz39 hz41 hz43
        refine h_ceq (tg := 1441) (pc' := 536) rfl rfl rfl ci_m1 ci_m1 (fun c67 => ?_) (fun c67 => absurd (Int.le_antisymm (by omega) (by omega)) c67)
        exact kk _ I0 (by first | exact d_tape.le j0 (Int.le_antisymm (by omega) (by omega)) (by omega) (fun j => rfl) (fun j => rfl) | (exfalso; omega)) (Int.le_antisymm (by omega) (by omega)) j2
    · clear hz35
      refine h_iconst (pc' := 13) (x := (Int32.ofInt 1)) rfl rfl rfl ?_
      refine h_goto (pc' := 17) rfl rfl ?_
      refine h_zret rfl rfl ci_1 (by omega) (h_Kv ?_)
      refine h_zne (tg := 13) (pc' := 11) rfl rfl rfl ci_1 (fun c68 => ?_) (fun c68 => absurd c68 (by omega))
      refine h_iload_n (pc' := 14) rfl rfl rfl ?_
      refine h_zne (tg := 50) (pc' := 17) rfl rfl rfl hz4 (fun c69 => ?_) (fun c69 => ?_)
      · refine h_iload_n (pc' := 51) rfl rfl rfl ?_
        refine h_iconst (pc' := 52) (x := (Int32.ofInt 1)) rfl rfl rfl ?_
        refine h_cne (tg := 94) (pc' := 55) rfl rfl rfl hz4 ci_1 (fun c70 => ?_) (fun c70 => ?_)
        · refine h_iconst (pc' := 95) (x := (Int32.ofInt (-1))) rfl rfl rfl ?_
          refine h_iret rfl rfl (h_Kv ?_)
          clear hz2 hz4 hz6
          refine h_aload_n (pc' := 515) rfl rfl rfl ?_
          refine h_aload_n (pc' := 516) rfl rfl rfl ?_
          refine h_iload_n (pc' := 517) rfl rfl rfl ?_
          refine h_iconst (pc' := 518) (x := (Int32.ofInt 1)) rfl rfl rfl ?_
          refine h_iadd (pc' := 519) rfl rfl hy3 ci_1 rfl (by omega) (by omega) (fun z71 hz71 => ?_)
          refine h_iald (pc' := 520) (v := s0 0 (b3 + 1)) rfl rfl rfl hz71 (by omega) (by omega) rfl (fun z72 hz72 => ?_)
          have tz72 := h_rgv hz72
          clear hz71
          refine h_aload_n (pc' := 521) rfl rfl rfl ?_
          refine h_iload_n (pc' := 522) rfl rfl rfl ?_
          refine h_iconst (pc' := 523) (x := (Int32.ofInt 2)) rfl rfl rfl ?_
          refine h_iadd (pc' := 524) rfl rfl hy3 ci_2 rfl (by omega) (by omega) (fun z73 hz73 => ?_)
          refine h_iald (pc' := 525) (v := s0 0 (b3 + 2)) rfl rfl rfl hz73 (by omega) (by omega) rfl (fun z74 hz74 => ?_)
          have tz74 := h_rgv hz74
          clear hz73
          refine h_aload_n (pc' := 526) rfl rfl rfl ?_
          refine h_iload_n (pc' := 527) rfl rfl rfl ?_
          refine h_iconst (pc' := 528) (x := (Int32.ofInt 3)) rfl rfl rfl ?_
          refine h_iadd (pc' := 529) rfl rfl hy3 ci_3 rfl (by omega) (by omega) (fun z75 hz75 => ?_)
          refine h_iald (pc' := 530) (v := s0 0 (b3 + 3)) rfl rfl rfl hz75 (by omega) (by omega) rfl (fun z76 hz76 => ?_)
          have tz76 := h_rgv hz76
          clear hz75
          refine h_call (sp := false) (pc' := 533) (M := [(0, .ref 98), (1, .int z72), (2, .int z74), (3, .int z76)]) rfl rfl rfl rfl rfl rfl rfl rfl ?_
          refine h_iload_n (pc' := 1) rfl rfl rfl ?_
          refine h_iconst (pc' := 2) (x := (Int32.ofInt 1)) rfl rfl rfl ?_
          refine h_cne (tg := 48) (pc' := 5) rfl rfl rfl hz74 ci_1 (fun c77 => ?_) (fun c77 => absurd c77 (by omega))
          refine h_aload_n (pc' := 49) rfl rfl rfl ?_
          refine h_aload_n (pc' := 50) rfl rfl rfl ?_
          refine h_iload_n (pc' := 51) rfl rfl rfl ?_
          refine h_call (sp := false) (pc' := 54) (M := [(0, .ref 98), (1, .int z72)]) rfl rfl rfl rfl rfl rfl rfl rfl ?_
          refine h_iload_n (pc' := 1) rfl rfl rfl ?_
          refine h_i2l (pc' := 2) rfl rfl hz72 (fun z78 hz78 => ?_)
          refine h_lconst (pc' := 3) (x := (Int64.ofInt 0)) rfl rfl rfl ?_
          refine h_aload_n (pc' := 4) rfl rfl rfl ?_
          refine h_getI (pc' := 7) (v := s0 98 1) rfl rfl rfl rfl rfl rfl (fun z79 hz79 => ?_)
          have tz79 := tf_98_1 I0
          refine h_iconst (pc' := 8) (x := (Int32.ofInt 1)) rfl rfl rfl ?_
          refine h_isub (pc' := 9) rfl rfl hz79 ci_1 rfl (by omega) (by omega) (fun z80 hz80 => ?_)
          clear hz79
          refine h_i2l (pc' := 10) rfl rfl hz80 (fun z81 hz81 => ?_)
          clear hz80
          refine h_calls (pc' := 13) (M := [(0, .long z78), (2, .long (Int64.ofInt 0)), (4, .long z81)]) rfl rfl rfl rfl rfl rfl ?_
          refine h_lload_n (pc' := 1) rfl rfl rfl ?_
          refine h_lload_n (pc' := 2) rfl rfl rfl ?_
          refine h_lcmp (pc' := 3) rfl rfl hz78 cl_0 (fun z82 hz82 => ?_)
          refine h_zlt (tg := 17) (pc' := 6) rfl rfl rfl rfl (fun c83 => absurd c83 (by omega)) (fun c83 => ?_)
          replace c83 := (h_lcr hz82).2.1 c83
          clear hz82
          refine h_lload_n (pc' := 7) rfl rfl rfl ?_
          refine h_lload (pc' := 9) rfl rfl rfl ?_
          refine h_lcmp (pc' := 10) rfl rfl hz78 hz81 (fun z84 hz84 => ?_)
          refine h_zgt (tg := 17) (pc' := 13) rfl rfl rfl rfl (fun c85 => absurd c85 (by omega)) (fun c85 => ?_)
          replace c85 := (h_lcr hz84).2.2.1 c85
          clear hz84
          refine h_iconst (pc' := 14) (x := (Int32.ofInt 1)) rfl rfl rfl ?_
          refine h_goto (pc' := 18) rfl rfl ?_
          refine h_zret rfl rfl ci_1 (by omega) (h_Kv ?_)
          clear hz78 hz81
          refine h_zret rfl rfl ci_1 (by omega) (h_Kv ?_)
          refine h_zeq (tg := 77) (pc' := 57) rfl rfl rfl ci_1 (fun c86 => absurd c86 (by omega)) (fun c86 => ?_)
          refine h_iload_n (pc' := 58) rfl rfl rfl ?_
          refine h_zne (tg := 77) (pc' := 61) rfl rfl rfl hz74 (fun c87 => ?_) (fun c87 => absurd c87 (by omega))
          refine h_iconst (pc' := 78) (x := (Int32.ofInt 0)) rfl rfl rfl ?_
          refine h_iload_n (pc' := 79) rfl rfl rfl ?_
          refine h_iload_n (pc' := 80) rfl rfl rfl ?_
          refine h_iconst (pc' := 81) (x := (Int32.ofInt 0)) rfl rfl rfl ?_
          refine h_call (sp := false) (pc' := 84) (M := [(0, .ref 98), (1, .int (Int32.ofInt 0)), (2, .int z72), (3, .int z76), (4, .int (Int32.ofInt 0))]) rfl rfl rfl rfl rfl rfl rfl rfl ?_
          refine h_iload_n (pc' := 1) rfl rfl rfl ?_
          refine h_zne (tg := 6) (pc' := 4) rfl rfl rfl ci_0 (fun c88 => absurd (Int.le_antisymm (by omega) (by omega)) c88) (fun c88 => ?_)
          refine h_iconst (pc' := 5) (x := (Int32.ofInt (-1))) rfl rfl rfl ?_
          refine h_iret rfl rfl (h_Kv ?_)
          refine h_iret rfl rfl (h_Kv ?_)
          clear hz72 hz74 hz76
          refine h_ceq (tg := 1441) (pc' := 536) rfl rfl rfl ci_m1 ci_m1 (fun c89 => ?_) (fun c89 => absurd (Int.le_antisymm (by omega) (by omega)) c89)
          exact kk _ I0 (by first | exact d_tape.le j0 (Int.le_antisymm (by omega) (by omega)) (by omega) (fun j => rfl) (fun j => rfl) | (exfalso; omega)) (Int.le_antisymm (by omega) (by omega)) j2
        · refine h_iload_n (pc' := 56) rfl rfl rfl ?_
          refine h_bipush (pc' := 58) (x := (Int32.ofInt (-4))) rfl rfl cb_m4 ?_
          refine h_ceq (tg := 70) (pc' := 61) rfl rfl rfl hz6 ci_m4 (fun c90 => ?_) (fun c90 => ?_)
          · refine h_aload_n (pc' := 71) rfl rfl rfl ?_
            refine h_getR (pc' := 74) rfl rfl rfl rfl rfl ?_
            refine h_getR (pc' := 77) rfl rfl rfl rfl rfl ?_
            refine h_iload_n (pc' := 78) rfl rfl rfl ?_
            refine h_iald (pc' := 79) (v := s0 12 (s0 0 (b3 + 1))) rfl rfl rfl hz2 (by omega) (by omega) rfl (fun z91 hz91 => ?_)
            have tz91 := ty_12 I0 (s0 0 (b3 + 1))
            refine h_istore (pc' := 81) (M := [(4, .int z91), (0, .ref 9), (1, .int z2), (2, .int z4), (3, .int z6)]) rfl rfl rfl rfl ?_
            refine h_aload_n (pc' := 82) rfl rfl rfl ?_
            refine h_getR (pc' := 85) rfl rfl rfl rfl rfl ?_
            refine h_getR (pc' := 88) rfl rfl rfl rfl rfl ?_
            refine h_iload_n (pc' := 89) rfl rfl rfl ?_
            refine h_iload_n (pc' := 90) rfl rfl rfl ?_
            refine h_iast (pc' := 91) rfl rfl rfl rfl hz2 (by omega) (by omega) hz6 (h_fgt (E := fun s => s 64 1 = s0 64 1 ∧ s 98 11 = s0 98 11 ∧ s 64 4 = s0 64 4 ∧ s 98 16 = s0 98 16 ∧ s 10 8 = s0 10 8 ∧ s 98 1 = s0 98 1 ∧ s = h_up s0 12 (s0 0 (b3 + 1)) (s0 0 (b3 + 3))) _ (in_12 I0 (by omega)) (F0_.up rfl) ⟨rfl, rfl, rfl, rfl, rfl, rfl, rfl⟩ (fun s92 Is92 Fs92 (es92 : s92 64 1 = s0 64 1 ∧ s92 98 11 = s0 98 11 ∧ s92 64 4 = s0 64 4 ∧ s92 98 16 = s0 98 16 ∧ s92 10 8 = s0 10 8 ∧ s92 98 1 = s0 98 1 ∧ s92 = h_up s0 12 (s0 0 (b3 + 1)) (s0 0 (b3 + 3))) => ?_))
            have us92 := es92.2.2.2.2.2.2
            have Zs92 : ∀ i, s92 0 i = s0 0 i := fun i => (h_upo us92 rfl i).trans rfl
            refine h_iload (pc' := 93) rfl rfl rfl ?_
            refine h_iret rfl rfl (h_Kv ?_)
            clear hz2 hz4 hz6
            refine h_aload_n (pc' := 515) rfl rfl rfl ?_
            refine h_aload_n (pc' := 516) rfl rfl rfl ?_
            refine h_iload_n (pc' := 517) rfl rfl rfl ?_
            refine h_iconst (pc' := 518) (x := (Int32.ofInt 1)) rfl rfl rfl ?_
            refine h_iadd (pc' := 519) rfl rfl hy3 ci_1 rfl (by omega) (by omega) (fun z93 hz93 => ?_)
            refine h_iald (pc' := 520) (v := s0 0 (b3 + 1)) rfl rfl rfl hz93 (by omega) (by omega) (Zs92 _) (fun z94 hz94 => ?_)
            have tz94 := h_rgv hz94
            clear hz93
            refine h_aload_n (pc' := 521) rfl rfl rfl ?_
            refine h_iload_n (pc' := 522) rfl rfl rfl ?_
            refine h_iconst (pc' := 523) (x := (Int32.ofInt 2)) rfl rfl rfl ?_
            refine h_iadd (pc' := 524) rfl rfl hy3 ci_2 rfl (by omega) (by omega) (fun z95 hz95 => ?_)
            refine h_iald (pc' := 525) (v := s0 0 (b3 + 2)) rfl rfl rfl hz95 (by omega) (by omega) (Zs92 _) (fun z96 hz96 => ?_)
            have tz96 := h_rgv hz96
            clear hz95
            refine h_aload_n (pc' := 526) rfl rfl rfl ?_
            refine h_iload_n (pc' := 527) rfl rfl rfl ?_
            refine h_iconst (pc' := 528) (x := (Int32.ofInt 3)) rfl rfl rfl ?_
            refine h_iadd (pc' := 529) rfl rfl hy3 ci_3 rfl (by omega) (by omega) (fun z97 hz97 => ?_)
            refine h_iald (pc' := 530) (v := s0 0 (b3 + 3)) rfl rfl rfl hz97 (by omega) (by omega) (Zs92 _) (fun z98 hz98 => ?_)
            have tz98 := h_rgv hz98
            clear hz97
            refine h_call (sp := false) (pc' := 533) (M := [(0, .ref 98), (1, .int z94), (2, .int z96), (3, .int z98)]) rfl rfl rfl rfl rfl rfl rfl rfl ?_
            refine h_iload_n (pc' := 1) rfl rfl rfl ?_
            refine h_iconst (pc' := 2) (x := (Int32.ofInt 1)) rfl rfl rfl ?_
            refine h_cne (tg := 48) (pc' := 5) rfl rfl rfl hz96 ci_1 (fun c99 => absurd (Int.le_antisymm (by omega) (by omega)) c99) (fun c99 => ?_)
            refine h_aload_n (pc' := 6) rfl rfl rfl ?_
            refine h_aload_n (pc' := 7) rfl rfl rfl ?_
            refine h_iload_n (pc' := 8) rfl rfl rfl ?_
            refine h_call (sp := false) (pc' := 11) (M := [(0, .ref 98), (1, .int z94)]) rfl rfl rfl rfl rfl rfl rfl rfl ?_
            refine h_iload_n (pc' := 1) rfl rfl rfl ?_
            refine h_i2l (pc' := 2) rfl rfl hz94 (fun z100 hz100 => ?_)
            refine h_lconst (pc' := 3) (x := (Int64.ofInt 0)) rfl rfl rfl ?_
            refine h_aload_n (pc' := 4) rfl rfl rfl ?_
            refine h_getI (pc' := 7) (v := s0 98 1) rfl rfl rfl rfl rfl es92.2.2.2.2.2.1 (fun z101 hz101 => ?_)
            have tz101 := tf_98_1 I0
            refine h_iconst (pc' := 8) (x := (Int32.ofInt 1)) rfl rfl rfl ?_
            refine h_isub (pc' := 9) rfl rfl hz101 ci_1 rfl (by omega) (by omega) (fun z102 hz102 => ?_)
            clear hz101
            refine h_i2l (pc' := 10) rfl rfl hz102 (fun z103 hz103 => ?_)
            clear hz102
            refine h_calls (pc' := 13) (M := [(0, .long z100), (2, .long (Int64.ofInt 0)), (4, .long z103)]) rfl rfl rfl rfl rfl rfl ?_
            refine h_lload_n (pc' := 1) rfl rfl rfl ?_
            refine h_lload_n (pc' := 2) rfl rfl rfl ?_
            refine h_lcmp (pc' := 3) rfl rfl hz100 cl_0 (fun z104 hz104 => ?_)
            refine h_zlt (tg := 17) (pc' := 6) rfl rfl rfl rfl (fun c105 => absurd c105 (by omega)) (fun c105 => ?_)
            replace c105 := (h_lcr hz104).2.1 c105
            clear hz104
            refine h_lload_n (pc' := 7) rfl rfl rfl ?_
            refine h_lload (pc' := 9) rfl rfl rfl ?_
            refine h_lcmp (pc' := 10) rfl rfl hz100 hz103 (fun z106 hz106 => ?_)
            refine h_zgt (tg := 17) (pc' := 13) rfl rfl rfl rfl (fun c107 => absurd c107 (by omega)) (fun c107 => ?_)
            replace c107 := (h_lcr hz106).2.2.1 c107
            clear hz106
            refine h_iconst (pc' := 14) (x := (Int32.ofInt 1)) rfl rfl rfl ?_
            refine h_goto (pc' := 18) rfl rfl ?_
            refine h_zret rfl rfl ci_1 (by omega) (h_Kv ?_)
            clear hz100 hz103
            refine h_zret rfl rfl ci_1 (by omega) (h_Kv ?_)
            refine h_zeq (tg := 37) (pc' := 14) rfl rfl rfl ci_1 (fun c108 => absurd c108 (by omega)) (fun c108 => ?_)
            refine h_iload_n (pc' := 15) rfl rfl rfl ?_
            refine h_bipush (pc' := 17) (x := (Int32.ofInt (-4))) rfl rfl cb_m4 ?_
            refine h_ceq (tg := 33) (pc' := 20) rfl rfl rfl hz98 ci_m4 (fun c109 => ?_) (fun c109 => absurd (Int.le_antisymm (by omega) (by omega)) c109)
            refine h_iconst (pc' := 34) (x := (Int32.ofInt 1)) rfl rfl rfl ?_
            refine h_goto (pc' := 38) rfl rfl ?_
            refine h_bipush (pc' := 40) (x := (Int32.ofInt 6)) rfl rfl cb_6 ?_
            refine h_iload_n (pc' := 41) rfl rfl rfl ?_
            refine h_iadd (pc' := 42) rfl rfl ci_6 hz94 rfl (by have g0 := h_rgv hz94; omega) (by have g0 := h_rgv hz94; omega) (fun z110 hz110 => ?_)
            refine h_iload_n (pc' := 43) rfl rfl rfl ?_
            refine h_iconst (pc' := 44) (x := (Int32.ofInt 1)) rfl rfl rfl ?_
            refine h_call (sp := false) (pc' := 47) (M := [(0, .ref 98), (1, .int (Int32.ofInt 1)), (2, .int z110), (3, .int z98), (4, .int (Int32.ofInt 1))]) rfl rfl rfl rfl rfl rfl rfl rfl ?_
            refine h_iload_n (pc' := 1) rfl rfl rfl ?_
            refine h_zne (tg := 6) (pc' := 4) rfl rfl rfl ci_1 (fun c111 => ?_) (fun c111 => absurd c111 (by omega))
            refine h_iload (pc' := 8) rfl rfl rfl ?_
            refine h_zne (tg := 20) (pc' := 11) rfl rfl rfl ci_1 (fun c112 => ?_) (fun c112 => absurd c112 (by omega))
            refine h_aload_n (pc' := 21) rfl rfl rfl ?_
            refine h_getR (pc' := 24) rfl rfl rfl rfl rfl ?_
            refine h_iload_n (pc' := 25) rfl rfl rfl ?_
            refine h_iald (pc' := 26) (v := s92 99 (6 + (s0 0 (b3 + 1)))) rfl rfl rfl hz110 (by omega) (by omega) rfl (fun z113 hz113 => ?_)
            have tz113 := ty_99_1 Is92 (6 + (s0 0 (b3 + 1))) (by omega)
            refine h_calls (pc' := 29) (M := [(0, .int z113)]) rfl rfl rfl rfl rfl rfl ?_
            refine h_iload_n (pc' := 1) rfl rfl rfl ?_
            refine h_zne (tg := 9) (pc' := 4) rfl rfl rfl hz113 (fun c114 => ?_) (fun c114 => ?_)
            · refine h_iload_n (pc' := 10) rfl rfl rfl ?_
              refine h_iconst (pc' := 11) (x := (Int32.ofInt 1)) rfl rfl rfl ?_
              refine h_isub (pc' := 12) rfl rfl hz113 ci_1 rfl (by omega) (by omega) (fun z115 hz115 => ?_)
              refine h_iret rfl rfl (h_Kv ?_)
              clear hz113
              refine h_istore (pc' := 31) (M := [(5, .int z115), (0, .ref 98), (1, .int (Int32.ofInt 1)), (2, .int z110), (3, .int z98), (4, .int (Int32.ofInt 1))]) rfl rfl rfl rfl ?_
              refine h_aload_n (pc' := 32) rfl rfl rfl ?_
              refine h_getR (pc' := 35) rfl rfl rfl rfl rfl ?_
              refine h_iload_n (pc' := 36) rfl rfl rfl ?_
              refine h_iload (pc' := 38) rfl rfl rfl ?_
              refine h_zne (tg := 45) (pc' := 41) rfl rfl rfl ci_1 (fun c116 => ?_) (fun c116 => absurd c116 (by omega))
              refine h_iload_n (pc' := 46) rfl rfl rfl ?_
              refine h_bipush (pc' := 48) (x := (Int32.ofInt (-4))) rfl rfl cb_m4 ?_
              refine h_cne (tg := 55) (pc' := 51) rfl rfl rfl hz98 ci_m4 (fun c117 => absurd (Int.le_antisymm (by omega) (by omega)) c117) (fun c117 => ?_)
              refine h_iconst (pc' := 52) (x := (Int32.ofInt 0)) rfl rfl rfl ?_
              refine h_goto (pc' := 58) rfl rfl ?_
              refine h_iast (pc' := 59) rfl rfl rfl rfl hz110 (by omega) (by omega) ci_0 (h_fgt (E := fun s => s 64 1 = s0 64 1 ∧ s 98 11 = s0 98 11 ∧ s 64 4 = s0 64 4 ∧ s 98 16 = s0 98 16 ∧ s 10 8 = s0 10 8 ∧ s 98 1 = s0 98 1 ∧ s = h_up s92 99 (6 + (s0 0 (b3 + 1))) 0) _ (ip_99_1 Is92 (by omega) (by omega)) (Fs92.up rfl) ⟨es92.1, es92.2.1, es92.2.2.1, es92.2.2.2.1, es92.2.2.2.2.1, es92.2.2.2.2.2.1, rfl⟩ (fun s118 Is118 Fs118 (es118 : s118 64 1 = s0 64 1 ∧ s118 98 11 = s0 98 11 ∧ s118 64 4 = s0 64 4 ∧ s118 98 16 = s0 98 16 ∧ s118 10 8 = s0 10 8 ∧ s118 98 1 = s0 98 1 ∧ s118 = h_up s92 99 (6 + (s0 0 (b3 + 1))) 0) => ?_))
              clear es92
              have us118 := es118.2.2.2.2.2.2
              have Zs118 : ∀ i, s118 0 i = s0 0 i := fun i => (h_upo us118 rfl i).trans (Zs92 i)
              refine h_iload (pc' := 61) rfl rfl rfl ?_
              refine h_iret rfl rfl (h_Kv ?_)
              clear hz110
              refine h_iret rfl rfl (h_Kv ?_)
              clear hz94 hz96 hz98
              refine h_ceq (tg := 1441) (pc' := 536) rfl rfl rfl hz91 hz115 (fun c119 => ?_) (fun c119 => ?_)
              · clear hz115 hz91
                exact kk _ Is118 (by first | exact d_tape.le j0 (Int.le_antisymm (by omega) (by omega)) (by omega) (fun j => (h_upo us118 rfl j).trans ((h_upo us92 rfl j))) (fun j => (h_upo us118 rfl j).trans ((h_upo us92 rfl j))) | (exfalso; omega)) (Int.le_antisymm (by omega) (by omega)) (c_R.par j2 I0 (by omega) (by omega) (Int.le_antisymm (by omega) (by omega)) (by omega) (fun j => (h_upo us118 rfl j).trans ((h_upi us92 j)))  (fun j => (h_upi us118 j).trans (congrArg (fun z => if j = (6 + (s0 0 (b3 + 1))) then 0 else z) ((h_upo us92 rfl j))))  (fun p j n0 n1 => (h_upq us118 n1 j).trans ((h_upq us92 n0 j))))
              · clear hz115 hz91
                refine h_iconst (pc' := 537) (x := (Int32.ofInt 0)) rfl rfl rfl ?_
                have ga := j2.ps (j := s0 0 (b3 + 1)) (by omega) (by omega)
                have gm1_0 : s92 99 (s0 0 (b3 + 1)) = s0 99 (s0 0 (b3 + 1)) := (h_upo us92 rfl (s0 0 (b3 + 1)))
                have gm1_1 : s92 99 (6 + s0 0 (b3 + 1)) = s0 99 (6 + s0 0 (b3 + 1)) := (h_upo us92 rfl (6 + s0 0 (b3 + 1)))
                exfalso
                omega
            · refine h_bipush (pc' := 6) (x := (Int32.ofInt (-4))) rfl rfl cb_m4 ?_
              refine h_goto (pc' := 12) rfl rfl ?_
              refine h_iret rfl rfl (h_Kv ?_)
              clear hz113
              refine h_istore (pc' := 31) (M := [(5, .int (Int32.ofInt (-4))), (0, .ref 98), (1, .int (Int32.ofInt 1)), (2, .int z110), (3, .int z98), (4, .int (Int32.ofInt 1))]) rfl rfl rfl rfl ?_
              refine h_aload_n (pc' := 32) rfl rfl rfl ?_
              refine h_getR (pc' := 35) rfl rfl rfl rfl rfl ?_
              refine h_iload_n (pc' := 36) rfl rfl rfl ?_
              refine h_iload (pc' := 38) rfl rfl rfl ?_
              refine h_zne (tg := 45) (pc' := 41) rfl rfl rfl ci_1 (fun c120 => ?_) (fun c120 => absurd c120 (by omega))
              refine h_iload_n (pc' := 46) rfl rfl rfl ?_
              refine h_bipush (pc' := 48) (x := (Int32.ofInt (-4))) rfl rfl cb_m4 ?_
              refine h_cne (tg := 55) (pc' := 51) rfl rfl rfl hz98 ci_m4 (fun c121 => absurd (Int.le_antisymm (by omega) (by omega)) c121) (fun c121 => ?_)
              refine h_iconst (pc' := 52) (x := (Int32.ofInt 0)) rfl rfl rfl ?_
              refine h_goto (pc' := 58) rfl rfl ?_
              refine h_iast (pc' := 59) rfl rfl rfl rfl hz110 (by omega) (by omega) ci_0 (h_fgt (E := fun s => s 64 1 = s0 64 1 ∧ s 98 11 = s0 98 11 ∧ s 64 4 = s0 64 4 ∧ s 98 16 = s0 98 16 ∧ s 10 8 = s0 10 8 ∧ s 98 1 = s0 98 1 ∧ s = h_up s92 99 (6 + (s0 0 (b3 + 1))) 0) _ (ip_99_1 Is92 (by omega) (by omega)) (Fs92.up rfl) ⟨es92.1, es92.2.1, es92.2.2.1, es92.2.2.2.1, es92.2.2.2.2.1, es92.2.2.2.2.2.1, rfl⟩ (fun s122 Is122 Fs122 (es122 : s122 64 1 = s0 64 1 ∧ s122 98 11 = s0 98 11 ∧ s122 64 4 = s0 64 4 ∧ s122 98 16 = s0 98 16 ∧ s122 10 8 = s0 10 8 ∧ s122 98 1 = s0 98 1 ∧ s122 = h_up s92 99 (6 + (s0 0 (b3 + 1))) 0) => ?_))
              clear es92
              have us122 := es122.2.2.2.2.2.2
              have Zs122 : ∀ i, s122 0 i = s0 0 i := fun i => (h_upo us122 rfl i).trans (Zs92 i)
              refine h_iload (pc' := 61) rfl rfl rfl ?_
              refine h_iret rfl rfl (h_Kv ?_)
              clear hz110
              refine h_iret rfl rfl (h_Kv ?_)
              clear hz94 hz96 hz98
              refine h_ceq (tg := 1441) (pc' := 536) rfl rfl rfl hz91 ci_m4 (fun c123 => ?_) (fun c123 => ?_)
              · clear hz91
                exact kk _ Is122 (by first | exact d_tape.le j0 (Int.le_antisymm (by omega) (by omega)) (by omega) (fun j => (h_upo us122 rfl j).trans ((h_upo us92 rfl j))) (fun j => (h_upo us122 rfl j).trans ((h_upo us92 rfl j))) | (exfalso; omega)) (Int.le_antisymm (by omega) (by omega)) (c_R.par j2 I0 (by omega) (by omega) (Int.le_antisymm (by omega) (by omega)) (by omega) (fun j => (h_upo us122 rfl j).trans ((h_upi us92 j)))  (fun j => (h_upi us122 j).trans (congrArg (fun z => if j = (6 + (s0 0 (b3 + 1))) then 0 else z) ((h_upo us92 rfl j))))  (fun p j n0 n1 => (h_upq us122 n1 j).trans ((h_upq us92 n0 j))))
              · clear hz91
                refine h_iconst (pc' := 537) (x := (Int32.ofInt 0)) rfl rfl rfl ?_
                have ga := j2.ps (j := s0 0 (b3 + 1)) (by omega) (by omega)
                have gm1_0 : s92 99 (s0 0 (b3 + 1)) = s0 99 (s0 0 (b3 + 1)) := (h_upo us92 rfl (s0 0 (b3 + 1)))
                have gm1_1 : s92 99 (6 + s0 0 (b3 + 1)) = s0 99 (6 + s0 0 (b3 + 1)) := (h_upo us92 rfl (6 + s0 0 (b3 + 1)))
                exfalso
                omega
          · refine h_iload_n (pc' := 62) rfl rfl rfl ?_
            refine h_zlt (tg := 94) (pc' := 65) rfl rfl rfl hz6 (fun c124 => ?_) (fun c124 => ?_)
            · refine h_iconst (pc' := 95) (x := (Int32.ofInt (-1))) rfl rfl rfl ?_
              refine h_iret rfl rfl (h_Kv ?_)
              clear hz2 hz4 hz6
              refine h_aload_n (pc' := 515) rfl rfl rfl ?_
              refine h_aload_n (pc' := 516) rfl rfl rfl ?_
              refine h_iload_n (pc' := 517) rfl rfl rfl ?_
              refine h_iconst (pc' := 518) (x := (Int32.ofInt 1)) rfl rfl rfl ?_
              refine h_iadd (pc' := 519) rfl rfl hy3 ci_1 rfl (by omega) (by omega) (fun z125 hz125 => ?_)
              refine h_iald (pc' := 520) (v := s0 0 (b3 + 1)) rfl rfl rfl hz125 (by omega) (by omega) rfl (fun z126 hz126 => ?_)
              have tz126 := h_rgv hz126
              clear hz125
              refine h_aload_n (pc' := 521) rfl rfl rfl ?_
              refine h_iload_n (pc' := 522) rfl rfl rfl ?_
              refine h_iconst (pc' := 523) (x := (Int32.ofInt 2)) rfl rfl rfl ?_
              refine h_iadd (pc' := 524) rfl rfl hy3 ci_2 rfl (by omega) (by omega) (fun z127 hz127 => ?_)
              refine h_iald (pc' := 525) (v := s0 0 (b3 + 2)) rfl rfl rfl hz127 (by omega) (by omega) rfl (fun z128 hz128 => ?_)
              have tz128 := h_rgv hz128
              clear hz127
              refine h_aload_n (pc' := 526) rfl rfl rfl ?_
              refine h_iload_n (pc' := 527) rfl rfl rfl ?_
              refine h_iconst (pc' := 528) (x := (Int32.ofInt 3)) rfl rfl rfl ?_
              refine h_iadd (pc' := 529) rfl rfl hy3 ci_3 rfl (by omega) (by omega) (fun z129 hz129 => ?_)
              refine h_iald (pc' := 530) (v := s0 0 (b3 + 3)) rfl rfl rfl hz129 (by omega) (by omega) rfl (fun z130 hz130 => ?_)
              have tz130 := h_rgv hz130
              clear hz129
              refine h_call (sp := false) (pc' := 533) (M := [(0, .ref 98), (1, .int z126), (2, .int z128), (3, .int z130)]) rfl rfl rfl rfl rfl rfl rfl rfl ?_
              refine h_iload_n (pc' := 1) rfl rfl rfl ?_
              refine h_iconst (pc' := 2) (x := (Int32.ofInt 1)) rfl rfl rfl ?_
              refine h_cne (tg := 48) (pc' := 5) rfl rfl rfl hz128 ci_1 (fun c131 => absurd (Int.le_antisymm (by omega) (by omega)) c131) (fun c131 => ?_)
              refine h_aload_n (pc' := 6) rfl rfl rfl ?_
              refine h_aload_n (pc' := 7) rfl rfl rfl ?_
              refine h_iload_n (pc' := 8) rfl rfl rfl ?_
              refine h_call (sp := false) (pc' := 11) (M := [(0, .ref 98), (1, .int z126)]) rfl rfl rfl rfl rfl rfl rfl rfl ?_
              refine h_iload_n (pc' := 1) rfl rfl rfl ?_
              refine h_i2l (pc' := 2) rfl rfl hz126 (fun z132 hz132 => ?_)
              refine h_lconst (pc' := 3) (x := (Int64.ofInt 0)) rfl rfl rfl ?_
              refine h_aload_n (pc' := 4) rfl rfl rfl ?_
              refine h_getI (pc' := 7) (v := s0 98 1) rfl rfl rfl rfl rfl rfl (fun z133 hz133 => ?_)
              have tz133 := tf_98_1 I0
              refine h_iconst (pc' := 8) (x := (Int32.ofInt 1)) rfl rfl rfl ?_
              refine h_isub (pc' := 9) rfl rfl hz133 ci_1 rfl (by omega) (by omega) (fun z134 hz134 => ?_)
              clear hz133
              refine h_i2l (pc' := 10) rfl rfl hz134 (fun z135 hz135 => ?_)
              clear hz134
              refine h_calls (pc' := 13) (M := [(0, .long z132), (2, .long (Int64.ofInt 0)), (4, .long z135)]) rfl rfl rfl rfl rfl rfl ?_
              refine h_lload_n (pc' := 1) rfl rfl rfl ?_
              refine h_lload_n (pc' := 2) rfl rfl rfl ?_
              refine h_lcmp (pc' := 3) rfl rfl hz132 cl_0 (fun z136 hz136 => ?_)
              refine h_zlt (tg := 17) (pc' := 6) rfl rfl rfl rfl (fun c137 => absurd c137 (by omega)) (fun c137 => ?_)
              replace c137 := (h_lcr hz136).2.1 c137
              clear hz136
              refine h_lload_n (pc' := 7) rfl rfl rfl ?_
              refine h_lload (pc' := 9) rfl rfl rfl ?_
              refine h_lcmp (pc' := 10) rfl rfl hz132 hz135 (fun z138 hz138 => ?_)
              refine h_zgt (tg := 17) (pc' := 13) rfl rfl rfl rfl (fun c139 => absurd c139 (by omega)) (fun c139 => ?_)
              replace c139 := (h_lcr hz138).2.2.1 c139
              clear hz138
              refine h_iconst (pc' := 14) (x := (Int32.ofInt 1)) rfl rfl rfl ?_
              refine h_goto (pc' := 18) rfl rfl ?_
              refine h_zret rfl rfl ci_1 (by omega) (h_Kv ?_)
              clear hz132 hz135
              refine h_zret rfl rfl ci_1 (by omega) (h_Kv ?_)
              refine h_zeq (tg := 37) (pc' := 14) rfl rfl rfl ci_1 (fun c140 => absurd c140 (by omega)) (fun c140 => ?_)
              refine h_iload_n (pc' := 15) rfl rfl rfl ?_
              refine h_bipush (pc' := 17) (x := (Int32.ofInt (-4))) rfl rfl cb_m4 ?_
              refine h_ceq (tg := 33) (pc' := 20) rfl rfl rfl hz130 ci_m4 (fun c141 => absurd c141 (by omega)) (fun c141 => ?_)
              refine h_iload_n (pc' := 21) rfl rfl rfl ?_
              refine h_i2l (pc' := 22) rfl rfl hz130 (fun z142 hz142 => ?_)
              refine h_lconst (pc' := 23) (x := (Int64.ofInt 0)) rfl rfl rfl ?_
              refine h_iload_n (pc' := 24) rfl rfl rfl ?_
              refine h_iconst (pc' := 25) (x := (Int32.ofInt 1)) rfl rfl rfl ?_
              refine h_isub (pc' := 26) rfl rfl hz126 ci_1 rfl (by have g0 := h_rgv hz126; omega) (by have g0 := h_rgv hz126; omega) (fun z143 hz143 => ?_)
              refine h_i2l (pc' := 27) rfl rfl hz143 (fun z144 hz144 => ?_)
              clear hz143
              refine h_calls (pc' := 30) (M := [(0, .long z142), (2, .long (Int64.ofInt 0)), (4, .long z144)]) rfl rfl rfl rfl rfl rfl ?_
              refine h_lload_n (pc' := 1) rfl rfl rfl ?_
              refine h_lload_n (pc' := 2) rfl rfl rfl ?_
              refine h_lcmp (pc' := 3) rfl rfl hz142 cl_0 (fun z145 hz145 => ?_)
              refine h_zlt (tg := 17) (pc' := 6) rfl rfl rfl rfl (fun c146 => ?_) (fun c146 => absurd c146 (by omega))
              replace c146 := (h_lcr hz145).1 c146
              clear hz145
              refine h_iconst (pc' := 18) (x := (Int32.ofInt 0)) rfl rfl rfl ?_
              refine h_zret rfl rfl ci_0 (by omega) (h_Kv ?_)
              clear hz142 hz144
              refine h_zeq (tg := 37) (pc' := 33) rfl rfl rfl ci_0 (fun c147 => ?_) (fun c147 => absurd (Int.le_antisymm (by omega) (by omega)) c147)
              refine h_iconst (pc' := 38) (x := (Int32.ofInt 0)) rfl rfl rfl ?_
              refine h_bipush (pc' := 40) (x := (Int32.ofInt 6)) rfl rfl cb_6 ?_
              refine h_iload_n (pc' := 41) rfl rfl rfl ?_
              refine h_iadd (pc' := 42) rfl rfl ci_6 hz126 rfl (by have g0 := h_rgv hz126; omega) (by have g0 := h_rgv hz126; omega) (fun z148 hz148 => ?_)
              refine h_iload_n (pc' := 43) rfl rfl rfl ?_
              refine h_iconst (pc' := 44) (x := (Int32.ofInt 1)) rfl rfl rfl ?_
              refine h_call (sp := false) (pc' := 47) (M := [(0, .ref 98), (1, .int (Int32.ofInt 0)), (2, .int z148), (3, .int z130), (4, .int (Int32.ofInt 1))]) rfl rfl rfl rfl rfl rfl rfl rfl ?_
              refine h_iload_n (pc' := 1) rfl rfl rfl ?_
              refine h_zne (tg := 6) (pc' := 4) rfl rfl rfl ci_0 (fun c149 => absurd (Int.le_antisymm (by omega) (by omega)) c149) (fun c149 => ?_)
              refine h_iconst (pc' := 5) (x := (Int32.ofInt (-1))) rfl rfl rfl ?_
              refine h_iret rfl rfl (h_Kv ?_)
              clear hz148
              refine h_iret rfl rfl (h_Kv ?_)
              clear hz126 hz128 hz130
              refine h_ceq (tg := 1441) (pc' := 536) rfl rfl rfl ci_m1 ci_m1 (fun c150 => ?_) (fun c150 => absurd (Int.le_antisymm (by omega) (by omega)) c150)
              exact kk _ I0 (by first | exact d_tape.le j0 (Int.le_antisymm (by omega) (by omega)) (by omega) (fun j => rfl) (fun j => rfl) | (exfalso; omega)) (Int.le_antisymm (by omega) (by omega)) j2
            · refine h_iload_n (pc' := 66) rfl rfl rfl ?_
              refine h_iload_n (pc' := 67) rfl rfl rfl ?_
              refine h_cge (tg := 94) (pc' := 70) rfl rfl rfl hz6 hz2 (fun c151 => ?_) (fun c151 => ?_)
              · refine h_iconst (pc' := 95) (x := (Int32.ofInt (-1))) rfl rfl rfl ?_
                refine h_iret rfl rfl (h_Kv ?_)
                clear hz2 hz4 hz6
                refine h_aload_n (pc' := 515) rfl rfl rfl ?_
                refine h_aload_n (pc' := 516) rfl rfl rfl ?_
                refine h_iload_n (pc' := 517) rfl rfl rfl ?_
                refine h_iconst (pc' := 518) (x := (Int32.ofInt 1)) rfl rfl rfl ?_
                refine h_iadd (pc' := 519) rfl rfl hy3 ci_1 rfl (by omega) (by omega) (fun z152 hz152 => ?_)
                refine h_iald (pc' := 520) (v := s0 0 (b3 + 1)) rfl rfl rfl hz152 (by omega) (by omega) rfl (fun z153 hz153 => ?_)
                have tz153 := h_rgv hz153
                clear hz152
                refine h_aload_n (pc' := 521) rfl rfl rfl ?_
                refine h_iload_n (pc' := 522) rfl rfl rfl ?_
                refine h_iconst (pc' := 523) (x := (Int32.ofInt 2)) rfl rfl rfl ?_
                refine h_iadd (pc' := 524) rfl rfl hy3 ci_2 rfl (by omega) (by omega) (fun z154 hz154 => ?_)
                refine h_iald (pc' := 525) (v := s0 0 (b3 + 2)) rfl rfl rfl hz154 (by omega) (by omega) rfl (fun z155 hz155 => ?_)
                have tz155 := h_rgv hz155
                clear hz154
                refine h_aload_n (pc' := 526) rfl rfl rfl ?_
                refine h_iload_n (pc' := 527) rfl rfl rfl ?_
                refine h_iconst (pc' := 528) (x := (Int32.ofInt 3)) rfl rfl rfl ?_
                refine h_iadd (pc' := 529) rfl rfl hy3 ci_3 rfl (by omega) (by omega) (fun z156 hz156 => ?_)
                refine h_iald (pc' := 530) (v := s0 0 (b3 + 3)) rfl rfl rfl hz156 (by omega) (by omega) rfl (fun z157 hz157 => ?_)
                have tz157 := h_rgv hz157
                clear hz156
                refine h_call (sp := false) (pc' := 533) (M := [(0, .ref 98), (1, .int z153), (2, .int z155), (3, .int z157)]) rfl rfl rfl rfl rfl rfl rfl rfl ?_
                refine h_iload_n (pc' := 1) rfl rfl rfl ?_
                refine h_iconst (pc' := 2) (x := (Int32.ofInt 1)) rfl rfl rfl ?_
                refine h_cne (tg := 48) (pc' := 5) rfl rfl rfl hz155 ci_1 (fun c158 => absurd (Int.le_antisymm (by omega) (by omega)) c158) (fun c158 => ?_)
                refine h_aload_n (pc' := 6) rfl rfl rfl ?_
                refine h_aload_n (pc' := 7) rfl rfl rfl ?_
                refine h_iload_n (pc' := 8) rfl rfl rfl ?_
                refine h_call (sp := false) (pc' := 11) (M := [(0, .ref 98), (1, .int z153)]) rfl rfl rfl rfl rfl rfl rfl rfl ?_
                refine h_iload_n (pc' := 1) rfl rfl rfl ?_
                refine h_i2l (pc' := 2) rfl rfl hz153 (fun z159 hz159 => ?_)
                refine h_lconst (pc' := 3) (x := (Int64.ofInt 0)) rfl rfl rfl ?_
                refine h_aload_n (pc' := 4) rfl rfl rfl ?_
                refine h_getI (pc' := 7) (v := s0 98 1) rfl rfl rfl rfl rfl rfl (fun z160 hz160 => ?_)
                have tz160 := tf_98_1 I0
                refine h_iconst (pc' := 8) (x := (Int32.ofInt 1)) rfl rfl rfl ?_
                refine h_isub (pc' := 9) rfl rfl hz160 ci_1 rfl (by omega) (by omega) (fun z161 hz161 => ?_)
                clear hz160
                refine h_i2l (pc' := 10) rfl rfl hz161 (fun z162 hz162 => ?_)
                clear hz161
                refine h_calls (pc' := 13) (M := [(0, .long z159), (2, .long (Int64.ofInt 0)), (4, .long z162)]) rfl rfl rfl rfl rfl rfl ?_
                refine h_lload_n (pc' := 1) rfl rfl rfl ?_
                refine h_lload_n (pc' := 2) rfl rfl rfl ?_
                refine h_lcmp (pc' := 3) rfl rfl hz159 cl_0 (fun z163 hz163 => ?_)
                refine h_zlt (tg := 17) (pc' := 6) rfl rfl rfl rfl (fun c164 => absurd c164 (by omega)) (fun c164 => ?_)
                replace c164 := (h_lcr hz163).2.1 c164
                clear hz163
                refine h_lload_n (pc' := 7) rfl rfl rfl ?_
                refine h_lload (pc' := 9) rfl rfl rfl ?_
                refine h_lcmp (pc' := 10) rfl rfl hz159 hz162 (fun z165 hz165 => ?_)
                refine h_zgt (tg := 17) (pc' := 13) rfl rfl rfl rfl (fun c166 => absurd c166 (by omega)) (fun c166 => ?_)
                replace c166 := (h_lcr hz165).2.2.1 c166
                clear hz165
                refine h_iconst (pc' := 14) (x := (Int32.ofInt 1)) rfl rfl rfl ?_
                refine h_goto (pc' := 18) rfl rfl ?_
                refine h_zret rfl rfl ci_1 (by omega) (h_Kv ?_)
                clear hz159 hz162
                refine h_zret rfl rfl ci_1 (by omega) (h_Kv ?_)
                refine h_zeq (tg := 37) (pc' := 14) rfl rfl rfl ci_1 (fun c167 => absurd c167 (by omega)) (fun c167 => ?_)
                refine h_iload_n (pc' := 15) rfl rfl rfl ?_
                refine h_bipush (pc' := 17) (x := (Int32.ofInt (-4))) rfl rfl cb_m4 ?_
                refine h_ceq (tg := 33) (pc' := 20) rfl rfl rfl hz157 ci_m4 (fun c168 => absurd c168 (by omega)) (fun c168 => ?_)
                refine h_iload_n (pc' := 21) rfl rfl rfl ?_
                refine h_i2l (pc' := 22) rfl rfl hz157 (fun z169 hz169 => ?_)
                refine h_lconst (pc' := 23) (x := (Int64.ofInt 0)) rfl rfl rfl ?_
                refine h_iload_n (pc' := 24) rfl rfl rfl ?_
                refine h_iconst (pc' := 25) (x := (Int32.ofInt 1)) rfl rfl rfl ?_
                refine h_isub (pc' := 26) rfl rfl hz153 ci_1 rfl (by have g0 := h_rgv hz153; omega) (by have g0 := h_rgv hz153; omega) (fun z170 hz170 => ?_)
                refine h_i2l (pc' := 27) rfl rfl hz170 (fun z171 hz171 => ?_)
                clear hz170
                refine h_calls (pc' := 30) (M := [(0, .long z169), (2, .long (Int64.ofInt 0)), (4, .long z171)]) rfl rfl rfl rfl rfl rfl ?_
                refine h_lload_n (pc' := 1) rfl rfl rfl ?_
                refine h_lload_n (pc' := 2) rfl rfl rfl ?_
                refine h_lcmp (pc' := 3) rfl rfl hz169 cl_0 (fun z172 hz172 => ?_)
                refine h_zlt (tg := 17) (pc' := 6) rfl rfl rfl rfl (fun c173 => absurd c173 (by omega)) (fun c173 => ?_)
                replace c173 := (h_lcr hz172).2.1 c173
                clear hz172
                refine h_lload_n (pc' := 7) rfl rfl rfl ?_
                refine h_lload (pc' := 9) rfl rfl rfl ?_
                refine h_lcmp (pc' := 10) rfl rfl hz169 hz171 (fun z174 hz174 => ?_)
                refine h_zgt (tg := 17) (pc' := 13) rfl rfl rfl rfl (fun c175 => ?_) (fun c175 => absurd c175 (by omega))
                replace c175 := (h_lcr hz174).2.2.2.1 c175
                clear hz174
                refine h_iconst (pc' := 18) (x := (Int32.ofInt 0)) rfl rfl rfl ?_
                refine h_zret rfl rfl ci_0 (by omega) (h_Kv ?_)
                clear hz169 hz171
                refine h_zeq (tg := 37) (pc' := 33) rfl rfl rfl ci_0 (fun c176 => ?_) (fun c176 => absurd (Int.le_antisymm (by omega) (by omega)) c176)
                refine h_iconst (pc' := 38) (x := (Int32.ofInt 0)) rfl rfl rfl ?_
                refine h_bipush (pc' := 40) (x := (Int32.ofInt 6)) rfl rfl cb_6 ?_
                refine h_iload_n (pc' := 41) rfl rfl rfl ?_
                refine h_iadd (pc' := 42) rfl rfl ci_6 hz153 rfl (by have g0 := h_rgv hz153; omega) (by have g0 := h_rgv hz153; omega) (fun z177 hz177 => ?_)
                refine h_iload_n (pc' := 43) rfl rfl rfl ?_
                refine h_iconst (pc' := 44) (x := (Int32.ofInt 1)) rfl rfl rfl ?_
                refine h_call (sp := false) (pc' := 47) (M := [(0, .ref 98), (1, .int (Int32.ofInt 0)), (2, .int z177), (3, .int z157), (4, .int (Int32.ofInt 1))]) rfl rfl rfl rfl rfl rfl rfl rfl ?_
                refine h_iload_n (pc' := 1) rfl rfl rfl ?_
                refine h_zne (tg := 6) (pc' := 4) rfl rfl rfl ci_0 (fun c178 => absurd (Int.le_antisymm (by omega) (by omega)) c178) (fun c178 => ?_)
                refine h_iconst (pc' := 5) (x := (Int32.ofInt (-1))) rfl rfl rfl ?_
                refine h_iret rfl rfl (h_Kv ?_)
                clear hz177
                refine h_iret rfl rfl (h_Kv ?_)
                clear hz153 hz155 hz157
                refine h_ceq (tg := 1441) (pc' := 536) rfl rfl rfl ci_m1 ci_m1 (fun c179 => ?_) (fun c179 => absurd (Int.le_antisymm (by omega) (by omega)) c179)
                exact kk _ I0 (by first | exact d_tape.le j0 (Int.le_antisymm (by omega) (by omega)) (by omega) (fun j => rfl) (fun j => rfl) | (exfalso; omega)) (Int.le_antisymm (by omega) (by omega)) j2
              · refine h_aload_n (pc' := 71) rfl rfl rfl ?_
                refine h_getR (pc' := 74) rfl rfl rfl rfl rfl ?_
                refine h_getR (pc' := 77) rfl rfl rfl rfl rfl ?_
                refine h_iload_n (pc' := 78) rfl rfl rfl ?_
                refine h_iald (pc' := 79) (v := s0 12 (s0 0 (b3 + 1))) rfl rfl rfl hz2 (by omega) (by omega) rfl (fun z180 hz180 => ?_)
                have tz180 := ty_12 I0 (s0 0 (b3 + 1))
                refine h_istore (pc' := 81) (M := [(4, .int z180), (0, .ref 9), (1, .int z2), (2, .int z4), (3, .int z6)]) rfl rfl rfl rfl ?_
                refine h_aload_n (pc' := 82) rfl rfl rfl ?_
                refine h_getR (pc' := 85) rfl rfl rfl rfl rfl ?_
                refine h_getR (pc' := 88) rfl rfl rfl rfl rfl ?_
                refine h_iload_n (pc' := 89) rfl rfl rfl ?_
                refine h_iload_n (pc' := 90) rfl rfl rfl ?_
                refine h_iast (pc' := 91) rfl rfl rfl rfl hz2 (by omega) (by omega) hz6 (h_fgt (E := fun s => s 64 1 = s0 64 1 ∧ s 98 11 = s0 98 11 ∧ s 64 4 = s0 64 4 ∧ s 98 16 = s0 98 16 ∧ s 10 8 = s0 10 8 ∧ s 98 1 = s0 98 1 ∧ s = h_up s0 12 (s0 0 (b3 + 1)) (s0 0 (b3 + 3))) _ (in_12 I0 (by omega)) (F0_.up rfl) ⟨rfl, rfl, rfl, rfl, rfl, rfl, rfl⟩ (fun s181 Is181 Fs181 (es181 : s181 64 1 = s0 64 1 ∧ s181 98 11 = s0 98 11 ∧ s181 64 4 = s0 64 4 ∧ s181 98 16 = s0 98 16 ∧ s181 10 8 = s0 10 8 ∧ s181 98 1 = s0 98 1 ∧ s181 = h_up s0 12 (s0 0 (b3 + 1)) (s0 0 (b3 + 3))) => ?_))
                have us181 := es181.2.2.2.2.2.2
                have Zs181 : ∀ i, s181 0 i = s0 0 i := fun i => (h_upo us181 rfl i).trans rfl
                refine h_iload (pc' := 93) rfl rfl rfl ?_
                refine h_iret rfl rfl (h_Kv ?_)
                clear hz2 hz4 hz6
                refine h_aload_n (pc' := 515) rfl rfl rfl ?_
                refine h_aload_n (pc' := 516) rfl rfl rfl ?_
                refine h_iload_n (pc' := 517) rfl rfl rfl ?_
                refine h_iconst (pc' := 518) (x := (Int32.ofInt 1)) rfl rfl rfl ?_
                refine h_iadd (pc' := 519) rfl rfl hy3 ci_1 rfl (by omega) (by omega) (fun z182 hz182 => ?_)
                refine h_iald (pc' := 520) (v := s0 0 (b3 + 1)) rfl rfl rfl hz182 (by omega) (by omega) (Zs181 _) (fun z183 hz183 => ?_)
                have tz183 := h_rgv hz183
                clear hz182
                refine h_aload_n (pc' := 521) rfl rfl rfl ?_
                refine h_iload_n (pc' := 522) rfl rfl rfl ?_
                refine h_iconst (pc' := 523) (x := (Int32.ofInt 2)) rfl rfl rfl ?_
                refine h_iadd (pc' := 524) rfl rfl hy3 ci_2 rfl (by omega) (by omega) (fun z184 hz184 => ?_)
                refine h_iald (pc' := 525) (v := s0 0 (b3 + 2)) rfl rfl rfl hz184 (by omega) (by omega) (Zs181 _) (fun z185 hz185 => ?_)
                have tz185 := h_rgv hz185
                clear hz184
                refine h_aload_n (pc' := 526) rfl rfl rfl ?_
                refine h_iload_n (pc' := 527) rfl rfl rfl ?_
                refine h_iconst (pc' := 528) (x := (Int32.ofInt 3)) rfl rfl rfl ?_
                refine h_iadd (pc' := 529) rfl rfl hy3 ci_3 rfl (by omega) (by omega) (fun z186 hz186 => ?_)
                refine h_iald (pc' := 530) (v := s0 0 (b3 + 3)) rfl rfl rfl hz186 (by omega) (by omega) (Zs181 _) (fun z187 hz187 => ?_)
                have tz187 := h_rgv hz187
                clear hz186
                refine h_call (sp := false) (pc' := 533) (M := [(0, .ref 98), (1, .int z183), (2, .int z185), (3, .int z187)]) rfl rfl rfl rfl rfl rfl rfl rfl ?_
                refine h_iload_n (pc' := 1) rfl rfl rfl ?_
                refine h_iconst (pc' := 2) (x := (Int32.ofInt 1)) rfl rfl rfl ?_
                refine h_cne (tg := 48) (pc' := 5) rfl rfl rfl hz185 ci_1 (fun c188 => absurd (Int.le_antisymm (by omega) (by omega)) c188) (fun c188 => ?_)
                refine h_aload_n (pc' := 6) rfl rfl rfl ?_
                refine h_aload_n (pc' := 7) rfl rfl rfl ?_
                refine h_iload_n (pc' := 8) rfl rfl rfl ?_
                refine h_call (sp := false) (pc' := 11) (M := [(0, .ref 98), (1, .int z183)]) rfl rfl rfl rfl rfl rfl rfl rfl ?_
                refine h_iload_n (pc' := 1) rfl rfl rfl ?_
                refine h_i2l (pc' := 2) rfl rfl hz183 (fun z189 hz189 => ?_)
                refine h_lconst (pc' := 3) (x := (Int64.ofInt 0)) rfl rfl rfl ?_
                refine h_aload_n (pc' := 4) rfl rfl rfl ?_
                refine h_getI (pc' := 7) (v := s0 98 1) rfl rfl rfl rfl rfl es181.2.2.2.2.2.1 (fun z190 hz190 => ?_)
                have tz190 := tf_98_1 I0
                refine h_iconst (pc' := 8) (x := (Int32.ofInt 1)) rfl rfl rfl ?_
                refine h_isub (pc' := 9) rfl rfl hz190 ci_1 rfl (by omega) (by omega) (fun z191 hz191 => ?_)
                clear hz190
                refine h_i2l (pc' := 10) rfl rfl hz191 (fun z192 hz192 => ?_)
                clear hz191
                refine h_calls (pc' := 13) (M := [(0, .long z189), (2, .long (Int64.ofInt 0)), (4, .long z192)]) rfl rfl rfl rfl rfl rfl ?_
                refine h_lload_n (pc' := 1) rfl rfl rfl ?_
                refine h_lload_n (pc' := 2) rfl rfl rfl ?_
                refine h_lcmp (pc' := 3) rfl rfl hz189 cl_0 (fun z193 hz193 => ?_)
                refine h_zlt (tg := 17) (pc' := 6) rfl rfl rfl rfl (fun c194 => absurd c194 (by omega)) (fun c194 => ?_)
                replace c194 := (h_lcr hz193).2.1 c194
                clear hz193
                refine h_lload_n (pc' := 7) rfl rfl rfl ?_
                refine h_lload (pc' := 9) rfl rfl rfl ?_
                refine h_lcmp (pc' := 10) rfl rfl hz189 hz192 (fun z195 hz195 => ?_)
                refine h_zgt (tg := 17) (pc' := 13) rfl rfl rfl rfl (fun c196 => absurd c196 (by omega)) (fun c196 => ?_)
                replace c196 := (h_lcr hz195).2.2.1 c196
                clear hz195
                refine h_iconst (pc' := 14) (x := (Int32.ofInt 1)) rfl rfl rfl ?_
                refine h_goto (pc' := 18) rfl rfl ?_
                refine h_zret rfl rfl ci_1 (by omega) (h_Kv ?_)
                clear hz189 hz192
                refine h_zret rfl rfl ci_1 (by omega) (h_Kv ?_)
                refine h_zeq (tg := 37) (pc' := 14) rfl rfl rfl ci_1 (fun c197 => absurd c197 (by omega)) (fun c197 => ?_)
                refine h_iload_n (pc' := 15) rfl rfl rfl ?_
                refine h_bipush (pc' := 17) (x := (Int32.ofInt (-4))) rfl rfl cb_m4 ?_
                refine h_ceq (tg := 33) (pc' := 20) rfl rfl rfl hz187 ci_m4 (fun c198 => absurd c198 (by omega)) (fun c198 => ?_)
                refine h_iload_n (pc' := 21) rfl rfl rfl ?_
                refine h_i2l (pc' := 22) rfl rfl hz187 (fun z199 hz199 => ?_)
                refine h_lconst (pc' := 23) (x := (Int64.ofInt 0)) rfl rfl rfl ?_
                refine h_iload_n (pc' := 24) rfl rfl rfl ?_
                refine h_iconst (pc' := 25) (x := (Int32.ofInt 1)) rfl rfl rfl ?_
                refine h_isub (pc' := 26) rfl rfl hz183 ci_1 rfl (by have g0 := h_rgv hz183; omega) (by have g0 := h_rgv hz183; omega) (fun z200 hz200 => ?_)
                refine h_i2l (pc' := 27) rfl rfl hz200 (fun z201 hz201 => ?_)
                clear hz200
                refine h_calls (pc' := 30) (M := [(0, .long z199), (2, .long (Int64.ofInt 0)), (4, .long z201)]) rfl rfl rfl rfl rfl rfl ?_
                refine h_lload_n (pc' := 1) rfl rfl rfl ?_
                refine h_lload_n (pc' := 2) rfl rfl rfl ?_
                refine h_lcmp (pc' := 3) rfl rfl hz199 cl_0 (fun z202 hz202 => ?_)
                refine h_zlt (tg := 17) (pc' := 6) rfl rfl rfl rfl (fun c203 => absurd c203 (by omega)) (fun c203 => ?_)
                replace c203 := (h_lcr hz202).2.1 c203
                clear hz202
                refine h_lload_n (pc' := 7) rfl rfl rfl ?_
                refine h_lload (pc' := 9) rfl rfl rfl ?_
                refine h_lcmp (pc' := 10) rfl rfl hz199 hz201 (fun z204 hz204 => ?_)
                refine h_zgt (tg := 17) (pc' := 13) rfl rfl rfl rfl (fun c205 => absurd c205 (by omega)) (fun c205 => ?_)
                replace c205 := (h_lcr hz204).2.2.1 c205
                clear hz204
                refine h_iconst (pc' := 14) (x := (Int32.ofInt 1)) rfl rfl rfl ?_
                refine h_goto (pc' := 18) rfl rfl ?_
                refine h_zret rfl rfl ci_1 (by omega) (h_Kv ?_)
                clear hz199 hz201
                refine h_zeq (tg := 37) (pc' := 33) rfl rfl rfl ci_1 (fun c206 => absurd c206 (by omega)) (fun c206 => ?_)
                refine h_iconst (pc' := 34) (x := (Int32.ofInt 1)) rfl rfl rfl ?_
                refine h_goto (pc' := 38) rfl rfl ?_
                refine h_bipush (pc' := 40) (x := (Int32.ofInt 6)) rfl rfl cb_6 ?_
                refine h_iload_n (pc' := 41) rfl rfl rfl ?_
                refine h_iadd (pc' := 42) rfl rfl ci_6 hz183 rfl (by have g0 := h_rgv hz183; omega) (by have g0 := h_rgv hz183; omega) (fun z207 hz207 => ?_)
                refine h_iload_n (pc' := 43) rfl rfl rfl ?_
                refine h_iconst (pc' := 44) (x := (Int32.ofInt 1)) rfl rfl rfl ?_
                refine h_call (sp := false) (pc' := 47) (M := [(0, .ref 98), (1, .int (Int32.ofInt 1)), (2, .int z207), (3, .int z187), (4, .int (Int32.ofInt 1))]) rfl rfl rfl rfl rfl rfl rfl rfl ?_
                refine h_iload_n (pc' := 1) rfl rfl rfl ?_
                refine h_zne (tg := 6) (pc' := 4) rfl rfl rfl ci_1 (fun c208 => ?_) (fun c208 => absurd c208 (by omega))
                refine h_iload (pc' := 8) rfl rfl rfl ?_
                refine h_zne (tg := 20) (pc' := 11) rfl rfl rfl ci_1 (fun c209 => ?_) (fun c209 => absurd c209 (by omega))
                refine h_aload_n (pc' := 21) rfl rfl rfl ?_
                refine h_getR (pc' := 24) rfl rfl rfl rfl rfl ?_
                refine h_iload_n (pc' := 25) rfl rfl rfl ?_
                refine h_iald (pc' := 26) (v := s181 99 (6 + (s0 0 (b3 + 1)))) rfl rfl rfl hz207 (by omega) (by omega) rfl (fun z210 hz210 => ?_)
                have tz210 := ty_99_1 Is181 (6 + (s0 0 (b3 + 1))) (by omega)
                refine h_calls (pc' := 29) (M := [(0, .int z210)]) rfl rfl rfl rfl rfl rfl ?_
                refine h_iload_n (pc' := 1) rfl rfl rfl ?_
                refine h_zne (tg := 9) (pc' := 4) rfl rfl rfl hz210 (fun c211 => ?_) (fun c211 => ?_)
                · refine h_iload_n (pc' := 10) rfl rfl rfl ?_
                  refine h_iconst (pc' := 11) (x := (Int32.ofInt 1)) rfl rfl rfl ?_
                  refine h_isub (pc' := 12) rfl rfl hz210 ci_1 rfl (by omega) (by omega) (fun z212 hz212 => ?_)
                  refine h_iret rfl rfl (h_Kv ?_)
                  clear hz210
                  refine h_istore (pc' := 31) (M := [(5, .int z212), (0, .ref 98), (1, .int (Int32.ofInt 1)), (2, .int z207), (3, .int z187), (4, .int (Int32.ofInt 1))]) rfl rfl rfl rfl ?_
                  refine h_aload_n (pc' := 32) rfl rfl rfl ?_
                  refine h_getR (pc' := 35) rfl rfl rfl rfl rfl ?_
                  refine h_iload_n (pc' := 36) rfl rfl rfl ?_
                  refine h_iload (pc' := 38) rfl rfl rfl ?_
                  refine h_zne (tg := 45) (pc' := 41) rfl rfl rfl ci_1 (fun c213 => ?_) (fun c213 => absurd c213 (by omega))
                  refine h_iload_n (pc' := 46) rfl rfl rfl ?_
                  refine h_bipush (pc' := 48) (x := (Int32.ofInt (-4))) rfl rfl cb_m4 ?_
                  refine h_cne (tg := 55) (pc' := 51) rfl rfl rfl hz187 ci_m4 (fun c214 => ?_) (fun c214 => absurd c214 (by omega))
                  refine h_iload_n (pc' := 56) rfl rfl rfl ?_
                  refine h_iconst (pc' := 57) (x := (Int32.ofInt 1)) rfl rfl rfl ?_
                  refine h_iadd (pc' := 58) rfl rfl hz187 ci_1 rfl (by have g0 := h_rgv hz187; omega) (by have g0 := h_rgv hz187; omega) (fun z215 hz215 => ?_)
                  refine h_iast (pc' := 59) rfl rfl rfl rfl hz207 (by omega) (by omega) hz215 (h_fgt (E := fun s => s 64 1 = s0 64 1 ∧ s 98 11 = s0 98 11 ∧ s 64 4 = s0 64 4 ∧ s 98 16 = s0 98 16 ∧ s 10 8 = s0 10 8 ∧ s 98 1 = s0 98 1 ∧ s = h_up s181 99 (6 + (s0 0 (b3 + 1))) ((s0 0 (b3 + 3)) + 1)) _ (ip_99_1 Is181 (by omega) (by omega)) (Fs181.up rfl) ⟨es181.1, es181.2.1, es181.2.2.1, es181.2.2.2.1, es181.2.2.2.2.1, es181.2.2.2.2.2.1, rfl⟩ (fun s216 Is216 Fs216 (es216 : s216 64 1 = s0 64 1 ∧ s216 98 11 = s0 98 11 ∧ s216 64 4 = s0 64 4 ∧ s216 98 16 = s0 98 16 ∧ s216 10 8 = s0 10 8 ∧ s216 98 1 = s0 98 1 ∧ s216 = h_up s181 99 (6 + (s0 0 (b3 + 1))) ((s0 0 (b3 + 3)) + 1)) => ?_))
                  clear es181
                  have us216 := es216.2.2.2.2.2.2
                  have Zs216 : ∀ i, s216 0 i = s0 0 i := fun i => (h_upo us216 rfl i).trans (Zs181 i)
                  clear hz215
                  refine h_iload (pc' := 61) rfl rfl rfl ?_
                  refine h_iret rfl rfl (h_Kv ?_)
                  clear hz207
                  refine h_iret rfl rfl (h_Kv ?_)
                  clear hz183 hz185 hz187
                  refine h_ceq (tg := 1441) (pc' := 536) rfl rfl rfl hz180 hz212 (fun c217 => ?_) (fun c217 => ?_)
                  · clear hz180 hz212
                    exact kk _ Is216 (by first | exact d_tape.le j0 (Int.le_antisymm (by omega) (by omega)) (by omega) (fun j => (h_upo us216 rfl j).trans ((h_upo us181 rfl j))) (fun j => (h_upo us216 rfl j).trans ((h_upo us181 rfl j))) | (exfalso; omega)) (Int.le_antisymm (by omega) (by omega)) (c_R.par j2 I0 (by omega) (by omega) (Int.le_antisymm (by omega) (by omega)) (by omega) (fun j => (h_upo us216 rfl j).trans ((h_upi us181 j)))  (fun j => (h_upi us216 j).trans (congrArg (fun z => if j = (6 + (s0 0 (b3 + 1))) then ((s0 0 (b3 + 3)) + 1) else z) ((h_upo us181 rfl j))))  (fun p j n0 n1 => (h_upq us216 n1 j).trans ((h_upq us181 n0 j))))
                  · clear hz180 hz212
                    refine h_iconst (pc' := 537) (x := (Int32.ofInt 0)) rfl rfl rfl ?_
                    have ga := j2.ps (j := s0 0 (b3 + 1)) (by omega) (by omega)
                    have gm1_0 : s181 99 (s0 0 (b3 + 1)) = s0 99 (s0 0 (b3 + 1)) := (h_upo us181 rfl (s0 0 (b3 + 1)))
                    have gm1_1 : s181 99 (6 + s0 0 (b3 + 1)) = s0 99 (6 + s0 0 (b3 + 1)) := (h_upo us181 rfl (6 + s0 0 (b3 + 1)))
                    exfalso
                    omega
                · refine h_bipush (pc' := 6) (x := (Int32.ofInt (-4))) rfl rfl cb_m4 ?_
                  refine h_goto (pc' := 12) rfl rfl ?_
                  refine h_iret rfl rfl (h_Kv ?_)
                  clear hz210
                  refine h_istore (pc' := 31) (M := [(5, .int (Int32.ofInt (-4))), (0, .ref 98), (1, .int (Int32.ofInt 1)), (2, .int z207), (3, .int z187), (4, .int (Int32.ofInt 1))]) rfl rfl rfl rfl ?_
                  refine h_aload_n (pc' := 32) rfl rfl rfl ?_
                  refine h_getR (pc' := 35) rfl rfl rfl rfl rfl ?_
                  refine h_iload_n (pc' := 36) rfl rfl rfl ?_
                  refine h_iload (pc' := 38) rfl rfl rfl ?_
                  refine h_zne (tg := 45) (pc' := 41) rfl rfl rfl ci_1 (fun c218 => ?_) (fun c218 => absurd c218 (by omega))
                  refine h_iload_n (pc' := 46) rfl rfl rfl ?_
                  refine h_bipush (pc' := 48) (x := (Int32.ofInt (-4))) rfl rfl cb_m4 ?_
                  refine h_cne (tg := 55) (pc' := 51) rfl rfl rfl hz187 ci_m4 (fun c219 => ?_) (fun c219 => absurd c219 (by omega))
                  refine h_iload_n (pc' := 56) rfl rfl rfl ?_
                  refine h_iconst (pc' := 57) (x := (Int32.ofInt 1)) rfl rfl rfl ?_
                  refine h_iadd (pc' := 58) rfl rfl hz187 ci_1 rfl (by have g0 := h_rgv hz187; omega) (by have g0 := h_rgv hz187; omega) (fun z220 hz220 => ?_)
                  refine h_iast (pc' := 59) rfl rfl rfl rfl hz207 (by omega) (by omega) hz220 (h_fgt (E := fun s => s 64 1 = s0 64 1 ∧ s 98 11 = s0 98 11 ∧ s 64 4 = s0 64 4 ∧ s 98 16 = s0 98 16 ∧ s 10 8 = s0 10 8 ∧ s 98 1 = s0 98 1 ∧ s = h_up s181 99 (6 + (s0 0 (b3 + 1))) ((s0 0 (b3 + 3)) + 1)) _ (ip_99_1 Is181 (by omega) (by omega)) (Fs181.up rfl) ⟨es181.1, es181.2.1, es181.2.2.1, es181.2.2.2.1, es181.2.2.2.2.1, es181.2.2.2.2.2.1, rfl⟩ (fun s221 Is221 Fs221 (es221 : s221 64 1 = s0 64 1 ∧ s221 98 11 = s0 98 11 ∧ s221 64 4 = s0 64 4 ∧ s221 98 16 = s0 98 16 ∧ s221 10 8 = s0 10 8 ∧ s221 98 1 = s0 98 1 ∧ s221 = h_up s181 99 (6 + (s0 0 (b3 + 1))) ((s0 0 (b3 + 3)) + 1)) => ?_))
                  clear es181
                  have us221 := es221.2.2.2.2.2.2
                  have Zs221 : ∀ i, s221 0 i = s0 0 i := fun i => (h_upo us221 rfl i).trans (Zs181 i)
                  clear hz220
                  refine h_iload (pc' := 61) rfl rfl rfl ?_
                  refine h_iret rfl rfl (h_Kv ?_)
                  clear hz207
                  refine h_iret rfl rfl (h_Kv ?_)
                  clear hz183 hz185 hz187
                  refine h_ceq (tg := 1441) (pc' := 536) rfl rfl rfl hz180 ci_m4 (fun c222 => ?_) (fun c222 => ?_)
                  · clear hz180
                    exact kk _ Is221 (by first | exact d_tape.le j0 (Int.le_antisymm (by omega) (by omega)) (by omega) (fun j => (h_upo us221 rfl j).trans ((h_upo us181 rfl j))) (fun j => (h_upo us221 rfl j).trans ((h_upo us181 rfl j))) | (exfalso; omega)) (Int.le_antisymm (by omega) (by omega)) (c_R.par j2 I0 (by omega) (by omega) (Int.le_antisymm (by omega) (by omega)) (by omega) (fun j => (h_upo us221 rfl j).trans ((h_upi us181 j)))  (fun j => (h_upi us221 j).trans (congrArg (fun z => if j = (6 + (s0 0 (b3 + 1))) then ((s0 0 (b3 + 3)) + 1) else z) ((h_upo us181 rfl j))))  (fun p j n0 n1 => (h_upq us221 n1 j).trans ((h_upq us181 n0 j))))
                  · clear hz180
                    refine h_iconst (pc' := 537) (x := (Int32.ofInt 0)) rfl rfl rfl ?_
                    have ga := j2.ps (j := s0 0 (b3 + 1)) (by omega) (by omega)
                    have gm1_0 : s181 99 (s0 0 (b3 + 1)) = s0 99 (s0 0 (b3 + 1)) := (h_upo us181 rfl (s0 0 (b3 + 1)))
                    have gm1_1 : s181 99 (6 + s0 0 (b3 + 1)) = s0 99 (6 + s0 0 (b3 + 1)) := (h_upo us181 rfl (6 + s0 0 (b3 + 1)))
                    exfalso
                    omega
      · refine h_iload_n (pc' := 18) rfl rfl rfl ?_
        refine h_zlt (tg := 50) (pc' := 21) rfl rfl rfl hz6 (fun c223 => ?_) (fun c223 => ?_)
        · refine h_iload_n (pc' := 51) rfl rfl rfl ?_
          refine h_iconst (pc' := 52) (x := (Int32.ofInt 1)) rfl rfl rfl ?_
          refine h_cne (tg := 94) (pc' := 55) rfl rfl rfl hz4 ci_1 (fun c224 => ?_) (fun c224 => absurd c224 (by omega))
          refine h_iconst (pc' := 95) (x := (Int32.ofInt (-1))) rfl rfl rfl ?_
          refine h_iret rfl rfl (h_Kv ?_)
          clear hz2 hz4 hz6
          refine h_aload_n (pc' := 515) rfl rfl rfl ?_
          refine h_aload_n (pc' := 516) rfl rfl rfl ?_
          refine h_iload_n (pc' := 517) rfl rfl rfl ?_
          refine h_iconst (pc' := 518) (x := (Int32.ofInt 1)) rfl rfl rfl ?_
          refine h_iadd (pc' := 519) rfl rfl hy3 ci_1 rfl (by omega) (by omega) (fun z225 hz225 => ?_)
          refine h_iald (pc' := 520) (v := s0 0 (b3 + 1)) rfl rfl rfl hz225 (by omega) (by omega) rfl (fun z226 hz226 => ?_)
          have tz226 := h_rgv hz226
          clear hz225
          refine h_aload_n (pc' := 521) rfl rfl rfl ?_
          refine h_iload_n (pc' := 522) rfl rfl rfl ?_
          refine h_iconst (pc' := 523) (x := (Int32.ofInt 2)) rfl rfl rfl ?_
          refine h_iadd (pc' := 524) rfl rfl hy3 ci_2 rfl (by omega) (by omega) (fun z227 hz227 => ?_)
          refine h_iald (pc' := 525) (v := s0 0 (b3 + 2)) rfl rfl rfl hz227 (by omega) (by omega) rfl (fun z228 hz228 => ?_)
          have tz228 := h_rgv hz228
          clear hz227
          refine h_aload_n (pc' := 526) rfl rfl rfl ?_
          refine h_iload_n (pc' := 527) rfl rfl rfl ?_
          refine h_iconst (pc' := 528) (x := (Int32.ofInt 3)) rfl rfl rfl ?_
          refine h_iadd (pc' := 529) rfl rfl hy3 ci_3 rfl (by omega) (by omega) (fun z229 hz229 => ?_)
          refine h_iald (pc' := 530) (v := s0 0 (b3 + 3)) rfl rfl rfl hz229 (by omega) (by omega) rfl (fun z230 hz230 => ?_)
          have tz230 := h_rgv hz230
          clear hz229
          refine h_call (sp := false) (pc' := 533) (M := [(0, .ref 98), (1, .int z226), (2, .int z228), (3, .int z230)]) rfl rfl rfl rfl rfl rfl rfl rfl ?_
          refine h_iload_n (pc' := 1) rfl rfl rfl ?_
          refine h_iconst (pc' := 2) (x := (Int32.ofInt 1)) rfl rfl rfl ?_
          refine h_cne (tg := 48) (pc' := 5) rfl rfl rfl hz228 ci_1 (fun c231 => ?_) (fun c231 => absurd c231 (by omega))
          refine h_aload_n (pc' := 49) rfl rfl rfl ?_
          refine h_aload_n (pc' := 50) rfl rfl rfl ?_
          refine h_iload_n (pc' := 51) rfl rfl rfl ?_
          refine h_call (sp := false) (pc' := 54) (M := [(0, .ref 98), (1, .int z226)]) rfl rfl rfl rfl rfl rfl rfl rfl ?_
          refine h_iload_n (pc' := 1) rfl rfl rfl ?_
          refine h_i2l (pc' := 2) rfl rfl hz226 (fun z232 hz232 => ?_)
          refine h_lconst (pc' := 3) (x := (Int64.ofInt 0)) rfl rfl rfl ?_
          refine h_aload_n (pc' := 4) rfl rfl rfl ?_
          refine h_getI (pc' := 7) (v := s0 98 1) rfl rfl rfl rfl rfl rfl (fun z233 hz233 => ?_)
          have tz233 := tf_98_1 I0
          refine h_iconst (pc' := 8) (x := (Int32.ofInt 1)) rfl rfl rfl ?_
          refine h_isub (pc' := 9) rfl rfl hz233 ci_1 rfl (by omega) (by omega) (fun z234 hz234 => ?_)
          clear hz233
          refine h_i2l (pc' := 10) rfl rfl hz234 (fun z235 hz235 => ?_)
          clear hz234
          refine h_calls (pc' := 13) (M := [(0, .long z232), (2, .long (Int64.ofInt 0)), (4, .long z235)]) rfl rfl rfl rfl rfl rfl ?_
          refine h_lload_n (pc' := 1) rfl rfl rfl ?_
          refine h_lload_n (pc' := 2) rfl rfl rfl ?_
          refine h_lcmp (pc' := 3) rfl rfl hz232 cl_0 (fun z236 hz236 => ?_)
          refine h_zlt (tg := 17) (pc' := 6) rfl rfl rfl rfl (fun c237 => absurd c237 (by omega)) (fun c237 => ?_)
          replace c237 := (h_lcr hz236).2.1 c237
          clear hz236
          refine h_lload_n (pc' := 7) rfl rfl rfl ?_
          refine h_lload (pc' := 9) rfl rfl rfl ?_
          refine h_lcmp (pc' := 10) rfl rfl hz232 hz235 (fun z238 hz238 => ?_)
          refine h_zgt (tg := 17) (pc' := 13) rfl rfl rfl rfl (fun c239 => absurd c239 (by omega)) (fun c239 => ?_)
          replace c239 := (h_lcr hz238).2.2.1 c239
          clear hz238
          refine h_iconst (pc' := 14) (x := (Int32.ofInt 1)) rfl rfl rfl ?_
          refine h_goto (pc' := 18) rfl rfl ?_
          refine h_zret rfl rfl ci_1 (by omega) (h_Kv ?_)
          clear hz232 hz235
          refine h_zret rfl rfl ci_1 (by omega) (h_Kv ?_)
          refine h_zeq (tg := 77) (pc' := 57) rfl rfl rfl ci_1 (fun c240 => absurd c240 (by omega)) (fun c240 => ?_)
          refine h_iload_n (pc' := 58) rfl rfl rfl ?_
          refine h_zne (tg := 77) (pc' := 61) rfl rfl rfl hz228 (fun c241 => absurd (Int.le_antisymm (by omega) (by omega)) c241) (fun c241 => ?_)
          refine h_iload_n (pc' := 62) rfl rfl rfl ?_
          refine h_i2l (pc' := 63) rfl rfl hz230 (fun z242 hz242 => ?_)
          refine h_lconst (pc' := 64) (x := (Int64.ofInt 0)) rfl rfl rfl ?_
          refine h_ldc2 (pc' := 67) (x := (Int64.ofInt 3)) rfl rfl rfl ?_
          refine h_calls (pc' := 70) (M := [(0, .long z242), (2, .long (Int64.ofInt 0)), (4, .long (Int64.ofInt 3))]) rfl rfl rfl rfl rfl rfl ?_
          refine h_lload_n (pc' := 1) rfl rfl rfl ?_
          refine h_lload_n (pc' := 2) rfl rfl rfl ?_
          refine h_lcmp (pc' := 3) rfl rfl hz242 cl_0 (fun z243 hz243 => ?_)
          refine h_zlt (tg := 17) (pc' := 6) rfl rfl rfl rfl (fun c244 => ?_) (fun c244 => absurd c244 (by omega))
          replace c244 := (h_lcr hz243).1 c244
          clear hz243
          refine h_iconst (pc' := 18) (x := (Int32.ofInt 0)) rfl rfl rfl ?_
          refine h_zret rfl rfl ci_0 (by omega) (h_Kv ?_)
          clear hz242
          refine h_zeq (tg := 77) (pc' := 73) rfl rfl rfl ci_0 (fun c245 => ?_) (fun c245 => absurd (Int.le_antisymm (by omega) (by omega)) c245)
          refine h_iconst (pc' := 78) (x := (Int32.ofInt 0)) rfl rfl rfl ?_
          refine h_iload_n (pc' := 79) rfl rfl rfl ?_
          refine h_iload_n (pc' := 80) rfl rfl rfl ?_
          refine h_iconst (pc' := 81) (x := (Int32.ofInt 0)) rfl rfl rfl ?_
          refine h_call (sp := false) (pc' := 84) (M := [(0, .ref 98), (1, .int (Int32.ofInt 0)), (2, .int z226), (3, .int z230), (4, .int (Int32.ofInt 0))]) rfl rfl rfl rfl rfl rfl rfl rfl ?_
          refine h_iload_n (pc' := 1) rfl rfl rfl ?_
          refine h_zne (tg := 6) (pc' := 4) rfl rfl rfl ci_0 (fun c246 => absurd (Int.le_antisymm (by omega) (by omega)) c246) (fun c246 => ?_)
          refine h_iconst (pc' := 5) (x := (Int32.ofInt (-1))) rfl rfl rfl ?_
          refine h_iret rfl rfl (h_Kv ?_)
          refine h_iret rfl rfl (h_Kv ?_)
          clear hz226 hz228 hz230
          refine h_ceq (tg := 1441) (pc' := 536) rfl rfl rfl ci_m1 ci_m1 (fun c247 => ?_) (fun c247 => absurd (Int.le_antisymm (by omega) (by omega)) c247)
          exact kk _ I0 (by first | exact d_tape.le j0 (Int.le_antisymm (by omega) (by omega)) (by omega) (fun j => rfl) (fun j => rfl) | (exfalso; omega)) (Int.le_antisymm (by omega) (by omega)) j2
        · refine h_iload_n (pc' := 22) rfl rfl rfl ?_
          refine h_iconst (pc' := 23) (x := (Int32.ofInt 4)) rfl rfl rfl ?_
          refine h_cge (tg := 50) (pc' := 26) rfl rfl rfl hz6 ci_4 (fun c248 => ?_) (fun c248 => ?_)
          · refine h_iload_n (pc' := 51) rfl rfl rfl ?_
            refine h_iconst (pc' := 52) (x := (Int32.ofInt 1)) rfl rfl rfl ?_
            refine h_cne (tg := 94) (pc' := 55) rfl rfl rfl hz4 ci_1 (fun c249 => ?_) (fun c249 => absurd c249 (by omega))
            refine h_iconst (pc' := 95) (x := (Int32.ofInt (-1))) rfl rfl rfl ?_
            refine h_iret rfl rfl (h_Kv ?_)
            clear hz2 hz4 hz6
            refine h_aload_n (pc' := 515) rfl rfl rfl ?_
            refine h_aload_n (pc' := 516) rfl rfl rfl ?_
            refine h_iload_n (pc' := 517) rfl rfl rfl ?_
            refine h_iconst (pc' := 518) (x := (Int32.ofInt 1)) rfl rfl rfl ?_
            refine h_iadd (pc' := 519) rfl rfl hy3 ci_1 rfl (by omega) (by omega) (fun z250 hz250 => ?_)
            refine h_iald (pc' := 520) (v := s0 0 (b3 + 1)) rfl rfl rfl hz250 (by omega) (by omega) rfl (fun z251 hz251 => ?_)
            have tz251 := h_rgv hz251
            clear hz250
            refine h_aload_n (pc' := 521) rfl rfl rfl ?_
            refine h_iload_n (pc' := 522) rfl rfl rfl ?_
            refine h_iconst (pc' := 523) (x := (Int32.ofInt 2)) rfl rfl rfl ?_
            refine h_iadd (pc' := 524) rfl rfl hy3 ci_2 rfl (by omega) (by omega) (fun z252 hz252 => ?_)
            refine h_iald (pc' := 525) (v := s0 0 (b3 + 2)) rfl rfl rfl hz252 (by omega) (by omega) rfl (fun z253 hz253 => ?_)
            have tz253 := h_rgv hz253
            clear hz252
            refine h_aload_n (pc' := 526) rfl rfl rfl ?_
            refine h_iload_n (pc' := 527) rfl rfl rfl ?_
            refine h_iconst (pc' := 528) (x := (Int32.ofInt 3)) rfl rfl rfl ?_
            refine h_iadd (pc' := 529) rfl rfl hy3 ci_3 rfl (by omega) (by omega) (fun z254 hz254 => ?_)
            refine h_iald (pc' := 530) (v := s0 0 (b3 + 3)) rfl rfl rfl hz254 (by omega) (by omega) rfl (fun z255 hz255 => ?_)
            have tz255 := h_rgv hz255
            clear hz254
            refine h_call (sp := false) (pc' := 533) (M := [(0, .ref 98), (1, .int z251), (2, .int z253), (3, .int z255)]) rfl rfl rfl rfl rfl rfl rfl rfl ?_
            refine h_iload_n (pc' := 1) rfl rfl rfl ?_
            refine h_iconst (pc' := 2) (x := (Int32.ofInt 1)) rfl rfl rfl ?_
            refine h_cne (tg := 48) (pc' := 5) rfl rfl rfl hz253 ci_1 (fun c256 => ?_) (fun c256 => absurd c256 (by omega))
            refine h_aload_n (pc' := 49) rfl rfl rfl ?_
            refine h_aload_n (pc' := 50) rfl rfl rfl ?_
            refine h_iload_n (pc' := 51) rfl rfl rfl ?_
            refine h_call (sp := false) (pc' := 54) (M := [(0, .ref 98), (1, .int z251)]) rfl rfl rfl rfl rfl rfl rfl rfl ?_
            refine h_iload_n (pc' := 1) rfl rfl rfl ?_
            refine h_i2l (pc' := 2) rfl rfl hz251 (fun z257 hz257 => ?_)
            refine h_lconst (pc' := 3) (x := (Int64.ofInt 0)) rfl rfl rfl ?_
            refine h_aload_n (pc' := 4) rfl rfl rfl ?_
            refine h_getI (pc' := 7) (v := s0 98 1) rfl rfl rfl rfl rfl rfl (fun z258 hz258 => ?_)
            have tz258 := tf_98_1 I0
            refine h_iconst (pc' := 8) (x := (Int32.ofInt 1)) rfl rfl rfl ?_
            refine h_isub (pc' := 9) rfl rfl hz258 ci_1 rfl (by omega) (by omega) (fun z259 hz259 => ?_)
            clear hz258
            refine h_i2l (pc' := 10) rfl rfl hz259 (fun z260 hz260 => ?_)
            clear hz259
            refine h_calls (pc' := 13) (M := [(0, .long z257), (2, .long (Int64.ofInt 0)), (4, .long z260)]) rfl rfl rfl rfl rfl rfl ?_
            refine h_lload_n (pc' := 1) rfl rfl rfl ?_
            refine h_lload_n (pc' := 2) rfl rfl rfl ?_
            refine h_lcmp (pc' := 3) rfl rfl hz257 cl_0 (fun z261 hz261 => ?_)
            refine h_zlt (tg := 17) (pc' := 6) rfl rfl rfl rfl (fun c262 => absurd c262 (by omega)) (fun c262 => ?_)
            replace c262 := (h_lcr hz261).2.1 c262
            clear hz261
            refine h_lload_n (pc' := 7) rfl rfl rfl ?_
            refine h_lload (pc' := 9) rfl rfl rfl ?_
            refine h_lcmp (pc' := 10) rfl rfl hz257 hz260 (fun z263 hz263 => ?_)
            refine h_zgt (tg := 17) (pc' := 13) rfl rfl rfl rfl (fun c264 => absurd c264 (by omega)) (fun c264 => ?_)
            replace c264 := (h_lcr hz263).2.2.1 c264
            clear hz263
            refine h_iconst (pc' := 14) (x := (Int32.ofInt 1)) rfl rfl rfl ?_
            refine h_goto (pc' := 18) rfl rfl ?_
            refine h_zret rfl rfl ci_1 (by omega) (h_Kv ?_)
            clear hz257 hz260
            refine h_zret rfl rfl ci_1 (by omega) (h_Kv ?_)
            refine h_zeq (tg := 77) (pc' := 57) rfl rfl rfl ci_1 (fun c265 => absurd c265 (by omega)) (fun c265 => ?_)
            refine h_iload_n (pc' := 58) rfl rfl rfl ?_
            refine h_zne (tg := 77) (pc' := 61) rfl rfl rfl hz253 (fun c266 => absurd (Int.le_antisymm (by omega) (by omega)) c266) (fun c266 => ?_)
            refine h_iload_n (pc' := 62) rfl rfl rfl ?_
            refine h_i2l (pc' := 63) rfl rfl hz255 (fun z267 hz267 => ?_)
            refine h_lconst (pc' := 64) (x := (Int64.ofInt 0)) rfl rfl rfl ?_
            refine h_ldc2 (pc' := 67) (x := (Int64.ofInt 3)) rfl rfl rfl ?_
            refine h_calls (pc' := 70) (M := [(0, .long z267), (2, .long (Int64.ofInt 0)), (4, .long (Int64.ofInt 3))]) rfl rfl rfl rfl rfl rfl ?_
            refine h_lload_n (pc' := 1) rfl rfl rfl ?_
            refine h_lload_n (pc' := 2) rfl rfl rfl ?_
            refine h_lcmp (pc' := 3) rfl rfl hz267 cl_0 (fun z268 hz268 => ?_)
            refine h_zlt (tg := 17) (pc' := 6) rfl rfl rfl rfl (fun c269 => absurd c269 (by omega)) (fun c269 => ?_)
            replace c269 := (h_lcr hz268).2.1 c269
            clear hz268
            refine h_lload_n (pc' := 7) rfl rfl rfl ?_
            refine h_lload (pc' := 9) rfl rfl rfl ?_
            refine h_lcmp (pc' := 10) rfl rfl hz267 cl_3 (fun z270 hz270 => ?_)
            refine h_zgt (tg := 17) (pc' := 13) rfl rfl rfl rfl (fun c271 => ?_) (fun c271 => absurd c271 (by omega))
            replace c271 := (h_lcr hz270).2.2.2.1 c271
            clear hz270
            refine h_iconst (pc' := 18) (x := (Int32.ofInt 0)) rfl rfl rfl ?_
            refine h_zret rfl rfl ci_0 (by omega) (h_Kv ?_)
            clear hz267
            refine h_zeq (tg := 77) (pc' := 73) rfl rfl rfl ci_0 (fun c272 => ?_) (fun c272 => absurd (Int.le_antisymm (by omega) (by omega)) c272)
            refine h_iconst (pc' := 78) (x := (Int32.ofInt 0)) rfl rfl rfl ?_
            refine h_iload_n (pc' := 79) rfl rfl rfl ?_
            refine h_iload_n (pc' := 80) rfl rfl rfl ?_
            refine h_iconst (pc' := 81) (x := (Int32.ofInt 0)) rfl rfl rfl ?_
            refine h_call (sp := false) (pc' := 84) (M := [(0, .ref 98), (1, .int (Int32.ofInt 0)), (2, .int z251), (3, .int z255), (4, .int (Int32.ofInt 0))]) rfl rfl rfl rfl rfl rfl rfl rfl ?_
            refine h_iload_n (pc' := 1) rfl rfl rfl ?_
            refine h_zne (tg := 6) (pc' := 4) rfl rfl rfl ci_0 (fun c273 => absurd (Int.le_antisymm (by omega) (by omega)) c273) (fun c273 => ?_)
            refine h_iconst (pc' := 5) (x := (Int32.ofInt (-1))) rfl rfl rfl ?_
            refine h_iret rfl rfl (h_Kv ?_)
            refine h_iret rfl rfl (h_Kv ?_)
            clear hz251 hz253 hz255
            refine h_ceq (tg := 1441) (pc' := 536) rfl rfl rfl ci_m1 ci_m1 (fun c274 => ?_) (fun c274 => absurd (Int.le_antisymm (by omega) (by omega)) c274)
            exact kk _ I0 (by first | exact d_tape.le j0 (Int.le_antisymm (by omega) (by omega)) (by omega) (fun j => rfl) (fun j => rfl) | (exfalso; omega)) (Int.le_antisymm (by omega) (by omega)) j2
          · refine h_aload_n (pc' := 27) rfl rfl rfl ?_
            refine h_getR (pc' := 30) rfl rfl rfl rfl rfl ?_
            refine h_getR (pc' := 33) rfl rfl rfl rfl rfl ?_
            refine h_iload_n (pc' := 34) rfl rfl rfl ?_
            refine h_iald (pc' := 35) (v := s0 11 (s0 0 (b3 + 1))) rfl rfl rfl hz2 (by omega) (by omega) rfl (fun z275 hz275 => ?_)
            have tz275 := ty_11 I0 (s0 0 (b3 + 1))
            refine h_istore (pc' := 37) (M := [(4, .int z275), (0, .ref 9), (1, .int z2), (2, .int z4), (3, .int z6)]) rfl rfl rfl rfl ?_
            refine h_aload_n (pc' := 38) rfl rfl rfl ?_
            refine h_getR (pc' := 41) rfl rfl rfl rfl rfl ?_
            refine h_getR (pc' := 44) rfl rfl rfl rfl rfl ?_
            refine h_iload_n (pc' := 45) rfl rfl rfl ?_
            refine h_iload_n (pc' := 46) rfl rfl rfl ?_
            refine h_iast (pc' := 47) rfl rfl rfl rfl hz2 (by omega) (by omega) hz6 (h_fgt (E := fun s => s 64 1 = s0 64 1 ∧ s 98 11 = s0 98 11 ∧ s 64 4 = s0 64 4 ∧ s 98 16 = s0 98 16 ∧ s 10 8 = s0 10 8 ∧ s 98 1 = s0 98 1 ∧ s = h_up s0 11 (s0 0 (b3 + 1)) (s0 0 (b3 + 3))) _ (in_11 I0 (by omega)) (F0_.up rfl) ⟨rfl, rfl, rfl, rfl, rfl, rfl, rfl⟩ (fun s276 Is276 Fs276 (es276 : s276 64 1 = s0 64 1 ∧ s276 98 11 = s0 98 11 ∧ s276 64 4 = s0 64 4 ∧ s276 98 16 = s0 98 16 ∧ s276 10 8 = s0 10 8 ∧ s276 98 1 = s0 98 1 ∧ s276 = h_up s0 11 (s0 0 (b3 + 1)) (s0 0 (b3 + 3))) => ?_))
            have us276 := es276.2.2.2.2.2.2
            have Zs276 : ∀ i, s276 0 i = s0 0 i := fun i => (h_upo us276 rfl i).trans rfl
            refine h_iload (pc' := 49) rfl rfl rfl ?_
            refine h_iret rfl rfl (h_Kv ?_)
            clear hz2 hz4 hz6
            refine h_aload_n (pc' := 515) rfl rfl rfl ?_
            refine h_aload_n (pc' := 516) rfl rfl rfl ?_
            refine h_iload_n (pc' := 517) rfl rfl rfl ?_
            refine h_iconst (pc' := 518) (x := (Int32.ofInt 1)) rfl rfl rfl ?_
            refine h_iadd (pc' := 519) rfl rfl hy3 ci_1 rfl (by omega) (by omega) (fun z277 hz277 => ?_)
            refine h_iald (pc' := 520) (v := s0 0 (b3 + 1)) rfl rfl rfl hz277 (by omega) (by omega) (Zs276 _) (fun z278 hz278 => ?_)
            have tz278 := h_rgv hz278
            clear hz277
            refine h_aload_n (pc' := 521) rfl rfl rfl ?_
            refine h_iload_n (pc' := 522) rfl rfl rfl ?_
            refine h_iconst (pc' := 523) (x := (Int32.ofInt 2)) rfl rfl rfl ?_
            refine h_iadd (pc' := 524) rfl rfl hy3 ci_2 rfl (by omega) (by omega) (fun z279 hz279 => ?_)
            refine h_iald (pc' := 525) (v := s0 0 (b3 + 2)) rfl rfl rfl hz279 (by omega) (by omega) (Zs276 _) (fun z280 hz280 => ?_)
            have tz280 := h_rgv hz280
            clear hz279
            refine h_aload_n (pc' := 526) rfl rfl rfl ?_
            refine h_iload_n (pc' := 527) rfl rfl rfl ?_
            refine h_iconst (pc' := 528) (x := (Int32.ofInt 3)) rfl rfl rfl ?_
            refine h_iadd (pc' := 529) rfl rfl hy3 ci_3 rfl (by omega) (by omega) (fun z281 hz281 => ?_)
            refine h_iald (pc' := 530) (v := s0 0 (b3 + 3)) rfl rfl rfl hz281 (by omega) (by omega) (Zs276 _) (fun z282 hz282 => ?_)
            have tz282 := h_rgv hz282
            clear hz281
            refine h_call (sp := false) (pc' := 533) (M := [(0, .ref 98), (1, .int z278), (2, .int z280), (3, .int z282)]) rfl rfl rfl rfl rfl rfl rfl rfl ?_
            refine h_iload_n (pc' := 1) rfl rfl rfl ?_
            refine h_iconst (pc' := 2) (x := (Int32.ofInt 1)) rfl rfl rfl ?_
            refine h_cne (tg := 48) (pc' := 5) rfl rfl rfl hz280 ci_1 (fun c283 => ?_) (fun c283 => absurd c283 (by omega))
            refine h_aload_n (pc' := 49) rfl rfl rfl ?_
            refine h_aload_n (pc' := 50) rfl rfl rfl ?_
            refine h_iload_n (pc' := 51) rfl rfl rfl ?_
            refine h_call (sp := false) (pc' := 54) (M := [(0, .ref 98), (1, .int z278)]) rfl rfl rfl rfl rfl rfl rfl rfl ?_
            refine h_iload_n (pc' := 1) rfl rfl rfl ?_
            refine h_i2l (pc' := 2) rfl rfl hz278 (fun z284 hz284 => ?_)
            refine h_lconst (pc' := 3) (x := (Int64.ofInt 0)) rfl rfl rfl ?_
            refine h_aload_n (pc' := 4) rfl rfl rfl ?_
            refine h_getI (pc' := 7) (v := s0 98 1) rfl rfl rfl rfl rfl es276.2.2.2.2.2.1 (fun z285 hz285 => ?_)
            have tz285 := tf_98_1 I0
            refine h_iconst (pc' := 8) (x := (Int32.ofInt 1)) rfl rfl rfl ?_
            refine h_isub (pc' := 9) rfl rfl hz285 ci_1 rfl (by omega) (by omega) (fun z286 hz286 => ?_)
            clear hz285
            refine h_i2l (pc' := 10) rfl rfl hz286 (fun z287 hz287 => ?_)
            clear hz286
            refine h_calls (pc' := 13) (M := [(0, .long z284), (2, .long (Int64.ofInt 0)), (4, .long z287)]) rfl rfl rfl rfl rfl rfl ?_
            refine h_lload_n (pc' := 1) rfl rfl rfl ?_
            refine h_lload_n (pc' := 2) rfl rfl rfl ?_
            refine h_lcmp (pc' := 3) rfl rfl hz284 cl_0 (fun z288 hz288 => ?_)
            refine h_zlt (tg := 17) (pc' := 6) rfl rfl rfl rfl (fun c289 => absurd c289 (by omega)) (fun c289 => ?_)
            replace c289 := (h_lcr hz288).2.1 c289
            clear hz288
            refine h_lload_n (pc' := 7) rfl rfl rfl ?_
            refine h_lload (pc' := 9) rfl rfl rfl ?_
            refine h_lcmp (pc' := 10) rfl rfl hz284 hz287 (fun z290 hz290 => ?_)
            refine h_zgt (tg := 17) (pc' := 13) rfl rfl rfl rfl (fun c291 => absurd c291 (by omega)) (fun c291 => ?_)
            replace c291 := (h_lcr hz290).2.2.1 c291
            clear hz290
            refine h_iconst (pc' := 14) (x := (Int32.ofInt 1)) rfl rfl rfl ?_
            refine h_goto (pc' := 18) rfl rfl ?_
            refine h_zret rfl rfl ci_1 (by omega) (h_Kv ?_)
            clear hz284 hz287
            refine h_zret rfl rfl ci_1 (by omega) (h_Kv ?_)
            refine h_zeq (tg := 77) (pc' := 57) rfl rfl rfl ci_1 (fun c292 => absurd c292 (by omega)) (fun c292 => ?_)
            refine h_iload_n (pc' := 58) rfl rfl rfl ?_
            refine h_zne (tg := 77) (pc' := 61) rfl rfl rfl hz280 (fun c293 => absurd (Int.le_antisymm (by omega) (by omega)) c293) (fun c293 => ?_)
            refine h_iload_n (pc' := 62) rfl rfl rfl ?_
            refine h_i2l (pc' := 63) rfl rfl hz282 (fun z294 hz294 => ?_)
            refine h_lconst (pc' := 64) (x := (Int64.ofInt 0)) rfl rfl rfl ?_
            refine h_ldc2 (pc' := 67) (x := (Int64.ofInt 3)) rfl rfl rfl ?_
            refine h_calls (pc' := 70) (M := [(0, .long z294), (2, .long (Int64.ofInt 0)), (4, .long (Int64.ofInt 3))]) rfl rfl rfl rfl rfl rfl ?_
            refine h_lload_n (pc' := 1) rfl rfl rfl ?_
            refine h_lload_n (pc' := 2) rfl rfl rfl ?_
            refine h_lcmp (pc' := 3) rfl rfl hz294 cl_0 (fun z295 hz295 => ?_)
            refine h_zlt (tg := 17) (pc' := 6) rfl rfl rfl rfl (fun c296 => absurd c296 (by omega)) (fun c296 => ?_)
            replace c296 := (h_lcr hz295).2.1 c296
            clear hz295
            refine h_lload_n (pc' := 7) rfl rfl rfl ?_
            refine h_lload (pc' := 9) rfl rfl rfl ?_
            refine h_lcmp (pc' := 10) rfl rfl hz294 cl_3 (fun z297 hz297 => ?_)
            refine h_zgt (tg := 17) (pc' := 13) rfl rfl rfl rfl (fun c298 => absurd c298 (by omega)) (fun c298 => ?_)
            replace c298 := (h_lcr hz297).2.2.1 c298
            clear hz297
            refine h_iconst (pc' := 14) (x := (Int32.ofInt 1)) rfl rfl rfl ?_
            refine h_goto (pc' := 18) rfl rfl ?_
            refine h_zret rfl rfl ci_1 (by omega) (h_Kv ?_)
            clear hz294
            refine h_zeq (tg := 77) (pc' := 73) rfl rfl rfl ci_1 (fun c299 => absurd c299 (by omega)) (fun c299 => ?_)
            refine h_iconst (pc' := 74) (x := (Int32.ofInt 1)) rfl rfl rfl ?_
            refine h_goto (pc' := 78) rfl rfl ?_
            refine h_iload_n (pc' := 79) rfl rfl rfl ?_
            refine h_iload_n (pc' := 80) rfl rfl rfl ?_
            refine h_iconst (pc' := 81) (x := (Int32.ofInt 0)) rfl rfl rfl ?_
            refine h_call (sp := false) (pc' := 84) (M := [(0, .ref 98), (1, .int (Int32.ofInt 1)), (2, .int z278), (3, .int z282), (4, .int (Int32.ofInt 0))]) rfl rfl rfl rfl rfl rfl rfl rfl ?_
            refine h_iload_n (pc' := 1) rfl rfl rfl ?_
            refine h_zne (tg := 6) (pc' := 4) rfl rfl rfl ci_1 (fun c300 => ?_) (fun c300 => absurd c300 (by omega))
            refine h_iload (pc' := 8) rfl rfl rfl ?_
            refine h_zne (tg := 20) (pc' := 11) rfl rfl rfl ci_0 (fun c301 => absurd (Int.le_antisymm (by omega) (by omega)) c301) (fun c301 => ?_)
            refine h_aload_n (pc' := 12) rfl rfl rfl ?_
            refine h_getR (pc' := 15) rfl rfl rfl rfl rfl ?_
            refine h_iload_n (pc' := 16) rfl rfl rfl ?_
            refine h_iald (pc' := 17) (v := s276 99 (s0 0 (b3 + 1))) rfl rfl rfl hz278 (by omega) (by omega) rfl (fun z302 hz302 => ?_)
            have tz302 := ty_99_0 Is276 (s0 0 (b3 + 1)) (by omega)
            refine h_goto (pc' := 29) rfl rfl ?_
            refine h_istore (pc' := 31) (M := [(5, .int z302), (0, .ref 98), (1, .int (Int32.ofInt 1)), (2, .int z278), (3, .int z282), (4, .int (Int32.ofInt 0))]) rfl rfl rfl rfl ?_
            refine h_aload_n (pc' := 32) rfl rfl rfl ?_
            refine h_getR (pc' := 35) rfl rfl rfl rfl rfl ?_
            refine h_iload_n (pc' := 36) rfl rfl rfl ?_
            refine h_iload (pc' := 38) rfl rfl rfl ?_
            refine h_zne (tg := 45) (pc' := 41) rfl rfl rfl ci_0 (fun c303 => absurd (Int.le_antisymm (by omega) (by omega)) c303) (fun c303 => ?_)
            refine h_iload_n (pc' := 42) rfl rfl rfl ?_
            refine h_goto (pc' := 58) rfl rfl ?_
            refine h_iast (pc' := 59) rfl rfl rfl rfl hz278 (by omega) (by omega) hz282 (h_fgt (E := fun s => s 64 1 = s0 64 1 ∧ s 98 11 = s0 98 11 ∧ s 64 4 = s0 64 4 ∧ s 98 16 = s0 98 16 ∧ s 10 8 = s0 10 8 ∧ s 98 1 = s0 98 1 ∧ s = h_up s276 99 (s0 0 (b3 + 1)) (s0 0 (b3 + 3))) _ (ip_99_0 Is276 (by omega) (by omega)) (Fs276.up rfl) ⟨es276.1, es276.2.1, es276.2.2.1, es276.2.2.2.1, es276.2.2.2.2.1, es276.2.2.2.2.2.1, rfl⟩ (fun s304 Is304 Fs304 (es304 : s304 64 1 = s0 64 1 ∧ s304 98 11 = s0 98 11 ∧ s304 64 4 = s0 64 4 ∧ s304 98 16 = s0 98 16 ∧ s304 10 8 = s0 10 8 ∧ s304 98 1 = s0 98 1 ∧ s304 = h_up s276 99 (s0 0 (b3 + 1)) (s0 0 (b3 + 3))) => ?_))
            clear es276
            have us304 := es304.2.2.2.2.2.2
            have Zs304 : ∀ i, s304 0 i = s0 0 i := fun i => (h_upo us304 rfl i).trans (Zs276 i)
            refine h_iload (pc' := 61) rfl rfl rfl ?_
            refine h_iret rfl rfl (h_Kv ?_)
            refine h_iret rfl rfl (h_Kv ?_)
            clear hz278 hz280 hz282
            refine h_ceq (tg := 1441) (pc' := 536) rfl rfl rfl hz275 hz302 (fun c305 => ?_) (fun c305 => ?_)
            · clear hz275 hz302
              exact kk _ Is304 (by first | exact d_tape.le j0 (Int.le_antisymm (by omega) (by omega)) (by omega) (fun j => (h_upo us304 rfl j).trans ((h_upo us276 rfl j))) (fun j => (h_upo us304 rfl j).trans ((h_upo us276 rfl j))) | (exfalso; omega)) (Int.le_antisymm (by omega) (by omega)) (c_R.kind j2 I0 (by omega) (by omega) (Int.le_antisymm (by omega) (by omega)) (fun j => (h_upo us304 rfl j).trans ((h_upi us276 j)))  (fun j => (h_upi us304 j).trans (congrArg (fun z => if j = (s0 0 (b3 + 1)) then (s0 0 (b3 + 3)) else z) ((h_upo us276 rfl j))))  (fun p j n0 n1 => (h_upq us304 n1 j).trans ((h_upq us276 n0 j))))
            · clear hz275 hz302
              refine h_iconst (pc' := 537) (x := (Int32.ofInt 0)) rfl rfl rfl ?_
              have ga := j2.ps (j := s0 0 (b3 + 1)) (by omega) (by omega)
              have gm1_0 : s276 99 (s0 0 (b3 + 1)) = s0 99 (s0 0 (b3 + 1)) := (h_upo us276 rfl (s0 0 (b3 + 1)))
              have gm1_1 : s276 99 (6 + s0 0 (b3 + 1)) = s0 99 (6 + s0 0 (b3 + 1)) := (h_upo us276 rfl (6 + s0 0 (b3 + 1)))
              exfalso
              omega
