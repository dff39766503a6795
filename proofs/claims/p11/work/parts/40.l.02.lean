set_option maxHeartbeats 100000000 in
theorem g_case_429 {ns : Nat} (hns : ns ≤ 320) (s0 : h_S) (I0 : h_I s0) (j0 : d_tape s0 s0) (j1 : s0 64 4 = s0 98 16) (j2 : c_R false s0) (j3 : g_ti s0) (y3 : Int32) (b3 : Int) (hy3 : y3.toInt = b3) (hr : 0 ≤ b3 ∧ b3 + 5 ≤ ns) {Q : Option Value → h_S → Prop} (kk : ∀ τ, h_I τ → (d_tape τ τ) → (τ 64 4 = τ 98 16) → (c_R false τ) → (g_ti τ) → h_T g_P (g_Y ns) 225 1441 [(0, .ref 0), (1, .ref 9), (2, .ref 98), (3, .int y3)] [] τ Q) : h_T g_P (g_Y ns) 225 429 [(0, .ref 0), (1, .ref 9), (2, .ref 98), (3, .int y3)] [] s0 Q := by
  have F0_ : h_F (fun _ _ => true) s0 s0 := h_F.rf
  have j0_ := j0.2
  have i0 := tf_64_1 I0
  have i1 := tf_98_11 I0
  have i2 := tf_64_4 I0
  have i3 := tf_98_16 I0
  have i4 := tf_10_8 I0
  have i5 := tf_98_1 I0
  have j2_ := j2.sz
  refine h_aload_n (pc' := 430) rfl rfl rfl ?_
  refine h_aload_n (pc' := 431) rfl rfl rfl ?_
  refine h_iload_n (pc' := 432) rfl rfl rfl ?_
  refine h_iconst (pc' := 433) (x := (Int32.ofInt 1)) rfl rfl rfl ?_
  refine h_iadd (pc' := 434) rfl rfl hy3 ci_1 rfl (by omega) (by omega) (fun z1 hz1 => ?_)
  refine h_iald (pc' := 435) (v := s0 0 (b3 + 1)) rfl rfl rfl hz1 (by omega) (by omega) rfl (fun z2 hz2 => ?_)
  have tz2 := h_rgv hz2
  clear hz1
  refine h_aload_n (pc' := 436) rfl rfl rfl ?_
  refine h_iload_n (pc' := 437) rfl rfl rfl ?_
  refine h_iconst (pc' := 438) (x := (Int32.ofInt 2)) rfl rfl rfl ?_
  refine h_iadd (pc' := 439) rfl rfl hy3 ci_2 rfl (by omega) (by omega) (fun z3 hz3 => ?_)
  refine h_iald (pc' := 440) (v := s0 0 (b3 + 2)) rfl rfl rfl hz3 (by omega) (by omega) rfl (fun z4 hz4 => ?_)
  have tz4 := h_rgv hz4
  clear hz3
  refine h_call (sp := false) (pc' := 443) (M := [(0, .ref 9), (1, .int z2), (2, .int z4)]) rfl rfl rfl rfl rfl rfl rfl rfl ?_
  refine h_aload_n (pc' := 1) rfl rfl rfl ?_
  refine h_getR (pc' := 4) rfl rfl rfl rfl rfl ?_
  refine h_iload_n (pc' := 5) rfl rfl rfl ?_
  refine h_call (sp := false) (pc' := 8) (M := [(0, .ref 10), (1, .int z2)]) rfl rfl rfl rfl rfl rfl rfl rfl ?_
  refine h_iload_n (pc' := 1) rfl rfl rfl ?_
  refine h_zlt (tg := 16) (pc' := 4) rfl rfl rfl hz2 (fun c5 => ?_) (fun c5 => ?_)
  · refine h_iconst (pc' := 17) (x := (Int32.ofInt 0)) rfl rfl rfl ?_
    refine h_zret rfl rfl ci_0 (by omega) (h_Kv ?_)
    refine h_zeq (tg := 22) (pc' := 11) rfl rfl rfl ci_0 (fun c6 => ?_) (fun c6 => absurd (Int.le_antisymm (by omega) (by omega)) c6)
    refine h_iconst (pc' := 23) (x := (Int32.ofInt (-1))) rfl rfl rfl ?_
    refine h_iret rfl rfl (h_Kv ?_)
    clear hz2 hz4
    refine h_aload_n (pc' := 444) rfl rfl rfl ?_
    refine h_aload_n (pc' := 445) rfl rfl rfl ?_
    refine h_iload_n (pc' := 446) rfl rfl rfl ?_
    refine h_iconst (pc' := 447) (x := (Int32.ofInt 1)) rfl rfl rfl ?_
    refine h_iadd (pc' := 448) rfl rfl hy3 ci_1 rfl (by omega) (by omega) (fun z7 hz7 => ?_)
    refine h_iald (pc' := 449) (v := s0 0 (b3 + 1)) rfl rfl rfl hz7 (by omega) (by omega) rfl (fun z8 hz8 => ?_)
    have tz8 := h_rgv hz8
    clear hz7
    refine h_aload_n (pc' := 450) rfl rfl rfl ?_
    refine h_iload_n (pc' := 451) rfl rfl rfl ?_
    refine h_iconst (pc' := 452) (x := (Int32.ofInt 2)) rfl rfl rfl ?_
    refine h_iadd (pc' := 453) rfl rfl hy3 ci_2 rfl (by omega) (by omega) (fun z9 hz9 => ?_)
    refine h_iald (pc' := 454) (v := s0 0 (b3 + 2)) rfl rfl rfl hz9 (by omega) (by omega) rfl (fun z10 hz10 => ?_)
    have tz10 := h_rgv hz10
    clear hz9
    refine h_call (sp := false) (pc' := 457) (M := [(0, .ref 98), (1, .int z8), (2, .int z10)]) rfl rfl rfl rfl rfl rfl rfl rfl ?_
    refine h_aload_n (pc' := 1) rfl rfl rfl ?_
    refine h_iload_n (pc' := 2) rfl rfl rfl ?_
    refine h_call (sp := false) (pc' := 5) (M := [(0, .ref 98), (1, .int z8)]) rfl rfl rfl rfl rfl rfl rfl rfl ?_
    refine h_iload_n (pc' := 1) rfl rfl rfl ?_
    refine h_i2l (pc' := 2) rfl rfl hz8 (fun z11 hz11 => ?_)
    refine h_lconst (pc' := 3) (x := (Int64.ofInt 0)) rfl rfl rfl ?_
    refine h_aload_n (pc' := 4) rfl rfl rfl ?_
    refine h_getI (pc' := 7) (v := s0 98 1) rfl rfl rfl rfl rfl rfl (fun z12 hz12 => ?_)
    have tz12 := tf_98_1 I0
    refine h_iconst (pc' := 8) (x := (Int32.ofInt 1)) rfl rfl rfl ?_
    refine h_isub (pc' := 9) rfl rfl hz12 ci_1 rfl (by omega) (by omega) (fun z13 hz13 => ?_)
    clear hz12
    refine h_i2l (pc' := 10) rfl rfl hz13 (fun z14 hz14 => ?_)
    clear hz13
    refine h_calls (pc' := 13) (M := [(0, .long z11), (2, .long (Int64.ofInt 0)), (4, .long z14)]) rfl rfl rfl rfl rfl rfl ?_
    refine h_lload_n (pc' := 1) rfl rfl rfl ?_
    refine h_lload_n (pc' := 2) rfl rfl rfl ?_
    refine h_lcmp (pc' := 3) rfl rfl hz11 cl_0 (fun z15 hz15 => ?_)
    refine h_zlt (tg := 17) (pc' := 6) rfl rfl rfl rfl (fun c16 => ?_) (fun c16 => absurd c16 (by omega))
    replace c16 := (h_lcr hz15).1 c16
    clear hz15
    refine h_iconst (pc' := 18) (x := (Int32.ofInt 0)) rfl rfl rfl ?_
    refine h_zret rfl rfl ci_0 (by omega) (h_Kv ?_)
    clear hz11 hz14
    refine h_zret rfl rfl ci_0 (by omega) (h_Kv ?_)
    refine h_zeq (tg := 16) (pc' := 8) rfl rfl rfl ci_0 (fun c17 => ?_) (fun c17 => absurd (Int.le_antisymm (by omega) (by omega)) c17)
    refine h_iconst (pc' := 17) (x := (Int32.ofInt (-1))) rfl rfl rfl ?_
    refine h_iret rfl rfl (h_Kv ?_)
    clear hz10 hz8
    refine h_ceq (tg := 1441) (pc' := 460) rfl rfl rfl ci_m1 ci_m1 (fun c18 => ?_) (fun c18 => absurd (Int.le_antisymm (by omega) (by omega)) c18)
    exact kk _ I0 (by first | exact d_tape.le j0 (Int.le_antisymm (by omega) (by omega)) (by omega) (fun j => rfl) (fun j => rfl) | (exfalso; omega)) (Int.le_antisymm (by omega) (by omega)) j2 (g_ti.e j3 rfl)
  · refine h_iload_n (pc' := 5) rfl rfl rfl ?_
    refine h_aload_n (pc' := 6) rfl rfl rfl ?_
    refine h_getI (pc' := 9) (v := s0 10 8) rfl rfl rfl rfl rfl rfl (fun z19 hz19 => ?_)
    have tz19 := tf_10_8 I0
    refine h_cge (tg := 16) (pc' := 12) rfl rfl rfl hz2 hz19 (fun c20 => ?_) (fun c20 => ?_)
    · clear hz19
      refine h_iconst (pc' := 17) (x := (Int32.ofInt 0)) rfl rfl rfl ?_
      refine h_zret rfl rfl ci_0 (by omega) (h_Kv ?_)
      refine h_zeq (tg := 22) (pc' := 11) rfl rfl rfl ci_0 (fun c21 => ?_) (fun c21 => absurd (Int.le_antisymm (by omega) (by omega)) c21)
      refine h_iconst (pc' := 23) (x := (Int32.ofInt (-1))) rfl rfl rfl ?_
      refine h_iret rfl rfl (h_Kv ?_)
      clear hz2 hz4
      refine h_aload_n (pc' := 444) rfl rfl rfl ?_
      refine h_aload_n (pc' := 445) rfl rfl rfl ?_
      refine h_iload_n (pc' := 446) rfl rfl rfl ?_
      refine h_iconst (pc' := 447) (x := (Int32.ofInt 1)) rfl rfl rfl ?_
      refine h_iadd (pc' := 448) rfl rfl hy3 ci_1 rfl (by omega) (by omega) (fun z22 hz22 => ?_)
      refine h_iald (pc' := 449) (v := s0 0 (b3 + 1)) rfl rfl rfl hz22 (by omega) (by omega) rfl (fun z23 hz23 => ?_)
      have tz23 := h_rgv hz23
      clear hz22
      refine h_aload_n (pc' := 450) rfl rfl rfl ?_
      refine h_iload_n (pc' := 451) rfl rfl rfl ?_
      refine h_iconst (pc' := 452) (x := (Int32.ofInt 2)) rfl rfl rfl ?_
      refine h_iadd (pc' := 453) rfl rfl hy3 ci_2 rfl (by omega) (by omega) (fun z24 hz24 => ?_)
      refine h_iald (pc' := 454) (v := s0 0 (b3 + 2)) rfl rfl rfl hz24 (by omega) (by omega) rfl (fun z25 hz25 => ?_)
      have tz25 := h_rgv hz25
      clear hz24
      refine h_call (sp := false) (pc' := 457) (M := [(0, .ref 98), (1, .int z23), (2, .int z25)]) rfl rfl rfl rfl rfl rfl rfl rfl ?_
      refine h_aload_n (pc' := 1) rfl rfl rfl ?_
      refine h_iload_n (pc' := 2) rfl rfl rfl ?_
      refine h_call (sp := false) (pc' := 5) (M := [(0, .ref 98), (1, .int z23)]) rfl rfl rfl rfl rfl rfl rfl rfl ?_
      refine h_iload_n (pc' := 1) rfl rfl rfl ?_
      refine h_i2l (pc' := 2) rfl rfl hz23 (fun z26 hz26 => ?_)
      refine h_lconst (pc' := 3) (x := (Int64.ofInt 0)) rfl rfl rfl ?_
      refine h_aload_n (pc' := 4) rfl rfl rfl ?_
      refine h_getI (pc' := 7) (v := s0 98 1) rfl rfl rfl rfl rfl rfl (fun z27 hz27 => ?_)
      have tz27 := tf_98_1 I0
      refine h_iconst (pc' := 8) (x := (Int32.ofInt 1)) rfl rfl rfl ?_
      refine h_isub (pc' := 9) rfl rfl hz27 ci_1 rfl (by omega) (by omega) (fun z28 hz28 => ?_)
      clear hz27
      refine h_i2l (pc' := 10) rfl rfl hz28 (fun z29 hz29 => ?_)
      clear hz28
      refine h_calls (pc' := 13) (M := [(0, .long z26), (2, .long (Int64.ofInt 0)), (4, .long z29)]) rfl rfl rfl rfl rfl rfl ?_
      refine h_lload_n (pc' := 1) rfl rfl rfl ?_
      refine h_lload_n (pc' := 2) rfl rfl rfl ?_
      refine h_lcmp (pc' := 3) rfl rfl hz26 cl_0 (fun z30 hz30 => ?_)
      refine h_zlt (tg := 17) (pc' := 6) rfl rfl rfl rfl (fun c31 => absurd c31 (by omega)) (fun c31 => ?_)
      replace c31 := (h_lcr hz30).2.1 c31
      clear hz30
      refine h_lload_n (pc' := 7) rfl rfl rfl ?_
      refine h_lload (pc' := 9) rfl rfl rfl ?_
      refine h_lcmp (pc' := 10) rfl rfl hz26 hz29 (fun z32 hz32 => ?_)
      refine h_zgt (tg := 17) (pc' := 13) rfl rfl rfl rfl (fun c33 => ?_) (fun c33 => absurd c33 (by omega))
      replace c33 := (h_lcr hz32).2.2.2.1 c33
      clear hz32
      refine h_iconst (pc' := 18) (x := (Int32.ofInt 0)) rfl rfl rfl ?_
      refine h_zret rfl rfl ci_0 (by omega) (h_Kv ?_)
      clear hz26 hz29
      refine h_zret rfl rfl ci_0 (by omega) (h_Kv ?_)
      refine h_zeq (tg := 16) (pc' := 8) rfl rfl rfl ci_0 (fun c34 => ?_) (fun c34 => absurd (Int.le_antisymm (by omega) (by omega)) c34)
      refine h_iconst (pc' := 17) (x := (Int32.ofInt (-1))) rfl rfl rfl ?_
      refine h_iret rfl rfl (h_Kv ?_)
      clear hz23 hz25
      refine h_ceq (tg := 1441) (pc' := 460) rfl rfl rfl ci_m1 ci_m1 (fun c35 => ?_) (fun c35 => absurd (Int.le_antisymm (by omega) (by omega)) c35)
      exact kk _ I0 (by first | exact d_tape.le j0 (Int.le_antisymm (by omega) (by omega)) (by omega) (fun j => rfl) (fun j => rfl) | (exfalso; omega)) (Int.le_antisymm (by omega) (by omega)) j2 (g_ti.e j3 rfl)
    · clear hz19
      refine h_iconst (pc' := 13) (x := (Int32.ofInt 1)) rfl rfl rfl ?_
      refine h_goto (pc' := 17) rfl rfl ?_
      refine h_zret rfl rfl ci_1 (by omega) (h_Kv ?_)
      refine h_zeq (tg := 22) (pc' := 11) rfl rfl rfl ci_1 (fun c36 => absurd c36 (by omega)) (fun c36 => ?_)
      refine h_aload_n (pc' := 12) rfl rfl rfl ?_
      refine h_getR (pc' := 15) rfl rfl rfl rfl rfl ?_
      refine h_iload_n (pc' := 16) rfl rfl rfl ?_
      refine h_call (sp := false) (pc' := 19) (M := [(0, .ref 10), (1, .int z4)]) rfl rfl rfl rfl rfl rfl rfl rfl ?_
      refine h_iload_n (pc' := 1) rfl rfl rfl ?_
      refine h_zlt (tg := 16) (pc' := 4) rfl rfl rfl hz4 (fun c37 => ?_) (fun c37 => ?_)
      · refine h_iconst (pc' := 17) (x := (Int32.ofInt 0)) rfl rfl rfl ?_
        refine h_zret rfl rfl ci_0 (by omega) (h_Kv ?_)
        refine h_zne (tg := 24) (pc' := 22) rfl rfl rfl ci_0 (fun c38 => absurd (Int.le_antisymm (by omega) (by omega)) c38) (fun c38 => ?_)
        refine h_iconst (pc' := 23) (x := (Int32.ofInt (-1))) rfl rfl rfl ?_
        refine h_iret rfl rfl (h_Kv ?_)
        clear hz2 hz4
        refine h_aload_n (pc' := 444) rfl rfl rfl ?_
        refine h_aload_n (pc' := 445) rfl rfl rfl ?_
        refine h_iload_n (pc' := 446) rfl rfl rfl ?_
        refine h_iconst (pc' := 447) (x := (Int32.ofInt 1)) rfl rfl rfl ?_
        refine h_iadd (pc' := 448) rfl rfl hy3 ci_1 rfl (by omega) (by omega) (fun z39 hz39 => ?_)
        refine h_iald (pc' := 449) (v := s0 0 (b3 + 1)) rfl rfl rfl hz39 (by omega) (by omega) rfl (fun z40 hz40 => ?_)
        have tz40 := h_rgv hz40
        clear hz39
        refine h_aload_n (pc' := 450) rfl rfl rfl ?_
        refine h_iload_n (pc' := 451) rfl rfl rfl ?_
        refine h_iconst (pc' := 452) (x := (Int32.ofInt 2)) rfl rfl rfl ?_
        refine h_iadd (pc' := 453) rfl rfl hy3 ci_2 rfl (by omega) (by omega) (fun z41 hz41 => ?_)
        refine h_iald (pc' := 454) (v := s0 0 (b3 + 2)) rfl rfl rfl hz41 (by omega) (by omega) rfl (fun z42 hz42 => ?_)
        have tz42 := h_rgv hz42
        clear hz41
        refine h_call (sp := false) (pc' := 457) (M := [(0, .ref 98), (1, .int z40), (2, .int z42)]) rfl rfl rfl rfl rfl rfl rfl rfl ?_
        refine h_aload_n (pc' := 1) rfl rfl rfl ?_
        refine h_iload_n (pc' := 2) rfl rfl rfl ?_
        refine h_call (sp := false) (pc' := 5) (M := [(0, .ref 98), (1, .int z40)]) rfl rfl rfl rfl rfl rfl rfl rfl ?_
        refine h_iload_n (pc' := 1) rfl rfl rfl ?_
        refine h_i2l (pc' := 2) rfl rfl hz40 (fun z43 hz43 => ?_)
        refine h_lconst (pc' := 3) (x := (Int64.ofInt 0)) rfl rfl rfl ?_
        refine h_aload_n (pc' := 4) rfl rfl rfl ?_
        refine h_getI (pc' := 7) (v := s0 98 1) rfl rfl rfl rfl rfl rfl (fun z44 hz44 => ?_)
        have tz44 := tf_98_1 I0
        refine h_iconst (pc' := 8) (x := (Int32.ofInt 1)) rfl rfl rfl ?_
        refine h_isub (pc' := 9) rfl rfl hz44 ci_1 rfl (by omega) (by omega) (fun z45 hz45 => ?_)
        clear hz44
        refine h_i2l (pc' := 10) rfl rfl hz45 (fun z46 hz46 => ?_)
        clear hz45
        refine h_calls (pc' := 13) (M := [(0, .long z43), (2, .long (Int64.ofInt 0)), (4, .long z46)]) rfl rfl rfl rfl rfl rfl ?_
        refine h_lload_n (pc' := 1) rfl rfl rfl ?_
        refine h_lload_n (pc' := 2) rfl rfl rfl ?_
        refine h_lcmp (pc' := 3) rfl rfl hz43 cl_0 (fun z47 hz47 => ?_)
        refine h_zlt (tg := 17) (pc' := 6) rfl rfl rfl rfl (fun c48 => absurd c48 (by omega)) (fun c48 => ?_)
        replace c48 := (h_lcr hz47).2.1 c48
        clear hz47
        refine h_lload_n (pc' := 7) rfl rfl rfl ?_
        refine h_lload (pc' := 9) rfl rfl rfl ?_
        refine h_lcmp (pc' := 10) rfl rfl hz43 hz46 (fun z49 hz49 => ?_)
        refine h_zgt (tg := 17) (pc' := 13) rfl rfl rfl rfl (fun c50 => absurd c50 (by omega)) (fun c50 => ?_)
        replace c50 := (h_lcr hz49).2.2.1 c50
        clear hz49
        refine h_iconst (pc' := 14) (x := (Int32.ofInt 1)) rfl rfl rfl ?_
        refine h_goto (pc' := 18) rfl rfl ?_
        refine h_zret rfl rfl ci_1 (by omega) (h_Kv ?_)
        clear hz43 hz46
        refine h_zret rfl rfl ci_1 (by omega) (h_Kv ?_)
        refine h_zeq (tg := 16) (pc' := 8) rfl rfl rfl ci_1 (fun c51 => absurd c51 (by omega)) (fun c51 => ?_)
        refine h_aload_n (pc' := 9) rfl rfl rfl ?_
        refine h_iload_n (pc' := 10) rfl rfl rfl ?_
        refine h_call (sp := false) (pc' := 13) (M := [(0, .ref 98), (1, .int z42)]) rfl rfl rfl rfl rfl rfl rfl rfl ?_
        refine h_iload_n (pc' := 1) rfl rfl rfl ?_
        refine h_i2l (pc' := 2) rfl rfl hz42 (fun z52 hz52 => ?_)
        refine h_lconst (pc' := 3) (x := (Int64.ofInt 0)) rfl rfl rfl ?_
        refine h_aload_n (pc' := 4) rfl rfl rfl ?_
        refine h_getI (pc' := 7) (v := s0 98 1) rfl rfl rfl rfl rfl rfl (fun z53 hz53 => ?_)
        refine h_iconst (pc' := 8) (x := (Int32.ofInt 1)) rfl rfl rfl ?_
        refine h_isub (pc' := 9) rfl rfl hz53 ci_1 rfl (by omega) (by omega) (fun z54 hz54 => ?_)
        clear hz53
        refine h_i2l (pc' := 10) rfl rfl hz54 (fun z55 hz55 => ?_)
        clear hz54
        refine h_calls (pc' := 13) (M := [(0, .long z52), (2, .long (Int64.ofInt 0)), (4, .long z55)]) rfl rfl rfl rfl rfl rfl ?_
        refine h_lload_n (pc' := 1) rfl rfl rfl ?_
        refine h_lload_n (pc' := 2) rfl rfl rfl ?_
        refine h_lcmp (pc' := 3) rfl rfl hz52 cl_0 (fun z56 hz56 => ?_)
        refine h_zlt (tg := 17) (pc' := 6) rfl rfl rfl rfl (fun c57 => ?_) (fun c57 => absurd c57 (by omega))
        replace c57 := (h_lcr hz56).1 c57
        clear hz56
        refine h_iconst (pc' := 18) (x := (Int32.ofInt 0)) rfl rfl rfl ?_
        refine h_zret rfl rfl ci_0 (by omega) (h_Kv ?_)
        clear hz52 hz55
        refine h_zret rfl rfl ci_0 (by omega) (h_Kv ?_)
        refine h_zne (tg := 18) (pc' := 16) rfl rfl rfl ci_0 (fun c58 => absurd (Int.le_antisymm (by omega) (by omega)) c58) (fun c58 => ?_)
        refine h_iconst (pc' := 17) (x := (Int32.ofInt (-1))) rfl rfl rfl ?_
        refine h_iret rfl rfl (h_Kv ?_)
        clear hz40 hz42
        refine h_ceq (tg := 1441) (pc' := 460) rfl rfl rfl ci_m1 ci_m1 (fun c59 => ?_) (fun c59 => absurd (Int.le_antisymm (by omega) (by omega)) c59)
        exact kk _ I0 (by first | exact d_tape.le j0 (Int.le_antisymm (by omega) (by omega)) (by omega) (fun j => rfl) (fun j => rfl) | (exfalso; omega)) (Int.le_antisymm (by omega) (by omega)) j2 (g_ti.e j3 rfl)
      · refine h_iload_n (pc' := 5) rfl rfl rfl ?_
        refine h_aload_n (pc' := 6) rfl rfl rfl ?_
        refine h_getI (pc' := 9) (v := s0 10 8) rfl rfl rfl rfl rfl rfl (fun z60 hz60 => ?_)
        refine h_cge (tg := 16) (pc' := 12) rfl rfl rfl hz4 hz60 (fun c61 => ?_) (fun c61 => ?_)
        · clear hz60
          refine h_iconst (pc' := 17) (x := (Int32.ofInt 0)) rfl rfl rfl ?_
          refine h_zret rfl rfl ci_0 (by omega) (h_Kv ?_)
          refine h_zne (tg := 24) (pc' := 22) rfl rfl rfl ci_0 (fun c62 => absurd (Int.le_antisymm (by omega) (by omega)) c62) (fun c62 => ?_)
          refine h_iconst (pc' := 23) (x := (Int32.ofInt (-1))) rfl rfl rfl ?_
          refine h_iret rfl rfl (h_Kv ?_)
          clear hz2 hz4
          refine h_aload_n (pc' := 444) rfl rfl rfl ?_
          refine h_aload_n (pc' := 445) rfl rfl rfl ?_
          refine h_iload_n (pc' := 446) rfl rfl rfl ?_
          refine h_iconst (pc' := 447) (x := (Int32.ofInt 1)) rfl rfl rfl ?_
          refine h_iadd (pc' := 448) rfl rfl hy3 ci_1 rfl (by omega) (by omega) (fun z63 hz63 => ?_)
          refine h_iald (pc' := 449) (v := s0 0 (b3 + 1)) rfl rfl rfl hz63 (by omega) (by omega) rfl (fun z64 hz64 => ?_)
          have tz64 := h_rgv hz64
          clear hz63
          refine h_aload_n (pc' := 450) rfl rfl rfl ?_
          refine h_iload_n (pc' := 451) rfl rfl rfl ?_
          refine h_iconst (pc' := 452) (x := (Int32.ofInt 2)) rfl rfl rfl ?_
          refine h_iadd (pc' := 453) rfl rfl hy3 ci_2 rfl (by omega) (by omega) (fun z65 hz65 => ?_)
          refine h_iald (pc' := 454) (v := s0 0 (b3 + 2)) rfl rfl rfl hz65 (by omega) (by omega) rfl (fun z66 hz66 => ?_)
          have tz66 := h_rgv hz66
          clear hz65
          refine h_call (sp := false) (pc' := 457) (M := [(0, .ref 98), (1, .int z64), (2, .int z66)]) rfl rfl rfl rfl rfl rfl rfl rfl ?_
          refine h_aload_n (pc' := 1) rfl rfl rfl ?_
          refine h_iload_n (pc' := 2) rfl rfl rfl ?_
          refine h_call (sp := false) (pc' := 5) (M := [(0, .ref 98), (1, .int z64)]) rfl rfl rfl rfl rfl rfl rfl rfl ?_
          refine h_iload_n (pc' := 1) rfl rfl rfl ?_
          refine h_i2l (pc' := 2) rfl rfl hz64 (fun z67 hz67 => ?_)
          refine h_lconst (pc' := 3) (x := (Int64.ofInt 0)) rfl rfl rfl ?_
          refine h_aload_n (pc' := 4) rfl rfl rfl ?_
          refine h_getI (pc' := 7) (v := s0 98 1) rfl rfl rfl rfl rfl rfl (fun z68 hz68 => ?_)
          have tz68 := tf_98_1 I0
          refine h_iconst (pc' := 8) (x := (Int32.ofInt 1)) rfl rfl rfl ?_
          refine h_isub (pc' := 9) rfl rfl hz68 ci_1 rfl (by omega) (by omega) (fun z69 hz69 => ?_)
          clear hz68
          refine h_i2l (pc' := 10) rfl rfl hz69 (fun z70 hz70 => ?_)
          clear hz69
          refine h_calls (pc' := 13) (M := [(0, .long z67), (2, .long (Int64.ofInt 0)), (4, .long z70)]) rfl rfl rfl rfl rfl rfl ?_
          refine h_lload_n (pc' := 1) rfl rfl rfl ?_
          refine h_lload_n (pc' := 2) rfl rfl rfl ?_
          refine h_lcmp (pc' := 3) rfl rfl hz67 cl_0 (fun z71 hz71 => ?_)
          refine h_zlt (tg := 17) (pc' := 6) rfl rfl rfl rfl (fun c72 => absurd c72 (by omega)) (fun c72 => ?_)
          replace c72 := (h_lcr hz71).2.1 c72
          clear hz71
          refine h_lload_n (pc' := 7) rfl rfl rfl ?_
          refine h_lload (pc' := 9) rfl rfl rfl ?_
          refine h_lcmp (pc' := 10) rfl rfl hz67 hz70 (fun z73 hz73 => ?_)
          refine h_zgt (tg := 17) (pc' := 13) rfl rfl rfl rfl (fun c74 => absurd c74 (by omega)) (fun c74 => ?_)
          replace c74 := (h_lcr hz73).2.2.1 c74
          clear hz73
          refine h_iconst (pc' := 14) (x := (Int32.ofInt 1)) rfl rfl rfl ?_
          refine h_goto (pc' := 18) rfl rfl ?_
          refine h_zret rfl rfl ci_1 (by omega) (h_Kv ?_)
          clear hz67 hz70
          refine h_zret rfl rfl ci_1 (by omega) (h_Kv ?_)
          refine h_zeq (tg := 16) (pc' := 8) rfl rfl rfl ci_1 (fun c75 => absurd c75 (by omega)) (fun c75 => ?_)
          refine h_aload_n (pc' := 9) rfl rfl rfl ?_
          refine h_iload_n (pc' := 10) rfl rfl rfl ?_
          refine h_call (sp := false) (pc' := 13) (M := [(0, .ref 98), (1, .int z66)]) rfl rfl rfl rfl rfl rfl rfl rfl ?_
          refine h_iload_n (pc' := 1) rfl rfl rfl ?_
          refine h_i2l (pc' := 2) rfl rfl hz66 (fun z76 hz76 => ?_)
          refine h_lconst (pc' := 3) (x := (Int64.ofInt 0)) rfl rfl rfl ?_
          refine h_aload_n (pc' := 4) rfl rfl rfl ?_
          refine h_getI (pc' := 7) (v := s0 98 1) rfl rfl rfl rfl rfl rfl (fun z77 hz77 => ?_)
          refine h_iconst (pc' := 8) (x := (Int32.ofInt 1)) rfl rfl rfl ?_
          refine h_isub (pc' := 9) rfl rfl hz77 ci_1 rfl (by omega) (by omega) (fun z78 hz78 => ?_)
          clear hz77
          refine h_i2l (pc' := 10) rfl rfl hz78 (fun z79 hz79 => ?_)
          clear hz78
          refine h_calls (pc' := 13) (M := [(0, .long z76), (2, .long (Int64.ofInt 0)), (4, .long z79)]) rfl rfl rfl rfl rfl rfl ?_
          refine h_lload_n (pc' := 1) rfl rfl rfl ?_
          refine h_lload_n (pc' := 2) rfl rfl rfl ?_
          refine h_lcmp (pc' := 3) rfl rfl hz76 cl_0 (fun z80 hz80 => ?_)
          refine h_zlt (tg := 17) (pc' := 6) rfl rfl rfl rfl (fun c81 => absurd c81 (by omega)) (fun c81 => ?_)
          replace c81 := (h_lcr hz80).2.1 c81
          clear hz80
          refine h_lload_n (pc' := 7) rfl rfl rfl ?_
          refine h_lload (pc' := 9) rfl rfl rfl ?_
          refine h_lcmp (pc' := 10) rfl rfl hz76 hz79 (fun z82 hz82 => ?_)
          refine h_zgt (tg := 17) (pc' := 13) rfl rfl rfl rfl (fun c83 => ?_) (fun c83 => absurd c83 (by omega))
          replace c83 := (h_lcr hz82).2.2.2.1 c83
          clear hz82
          refine h_iconst (pc' := 18) (x := (Int32.ofInt 0)) rfl rfl rfl ?_
          refine h_zret rfl rfl ci_0 (by omega) (h_Kv ?_)
          clear hz76 hz79
          refine h_zret rfl rfl ci_0 (by omega) (h_Kv ?_)
          refine h_zne (tg := 18) (pc' := 16) rfl rfl rfl ci_0 (fun c84 => absurd (Int.le_antisymm (by omega) (by omega)) c84) (fun c84 => ?_)
          refine h_iconst (pc' := 17) (x := (Int32.ofInt (-1))) rfl rfl rfl ?_
          refine h_iret rfl rfl (h_Kv ?_)
          clear hz64 hz66
          refine h_ceq (tg := 1441) (pc' := 460) rfl rfl rfl ci_m1 ci_m1 (fun c85 => ?_) (fun c85 => absurd (Int.le_antisymm (by omega) (by omega)) c85)
          exact kk _ I0 (by first | exact d_tape.le j0 (Int.le_antisymm (by omega) (by omega)) (by omega) (fun j => rfl) (fun j => rfl) | (exfalso; omega)) (Int.le_antisymm (by omega) (by omega)) j2 (g_ti.e j3 rfl)
        · clear hz60
          refine h_iconst (pc' := 13) (x := (Int32.ofInt 1)) rfl rfl rfl ?_
          refine h_goto (pc' := 17) rfl rfl ?_
          refine h_zret rfl rfl ci_1 (by omega) (h_Kv ?_)
          refine h_zne (tg := 24) (pc' := 22) rfl rfl rfl ci_1 (fun c86 => ?_) (fun c86 => absurd c86 (by omega))
          refine h_aload_n (pc' := 25) rfl rfl rfl ?_
          refine h_getR (pc' := 28) rfl rfl rfl rfl rfl ?_
          refine h_aload_n (pc' := 29) rfl rfl rfl ?_
          refine h_getR (pc' := 32) rfl rfl rfl rfl rfl ?_
          refine h_call (sp := false) (pc' := 35) (M := [(0, .ref 79), (1, .ref 10)]) rfl rfl rfl rfl rfl rfl rfl rfl ?_
          refine n_measure_10 _ I0  (fun s88 Is88 Gs88 ps88_0 ps88_1 => h_Kn ?_)
          have Zs88 : ∀ i, s88 0 i = s0 0 i := fun i => (Gs88 0 i rfl).trans rfl
          have Fs88 : h_F (fun _ _ => true) s88 s0 := fun _ _ h => by cases h
          have es88_0 : s88 64 1 = s0 64 1 := (Gs88 64 1 rfl).trans rfl
          have es88_1 : s88 98 11 = s0 98 11 := (Gs88 98 11 rfl).trans rfl
          have es88_2 : s88 64 4 = s0 64 4 := (Gs88 64 4 rfl).trans rfl
          have es88_3 : s88 98 16 = s0 98 16 := (Gs88 98 16 rfl).trans rfl
          have es88_4 : s88 10 8 = s0 10 8 := (Gs88 10 8 rfl).trans rfl
          have es88_5 : s88 98 1 = s0 98 1 := (Gs88 98 1 rfl).trans rfl
          refine h_aload_n (pc' := 36) rfl rfl rfl ?_
          refine h_getR (pc' := 39) rfl rfl rfl rfl rfl ?_
          refine h_iload_n (pc' := 40) rfl rfl rfl ?_
          refine h_iload_n (pc' := 41) rfl rfl rfl ?_
          refine h_call (sp := false) (pc' := 44) (M := [(0, .ref 79), (1, .int z2), (2, .int z4)]) rfl rfl rfl rfl rfl rfl rfl rfl ?_
          refine h_aload_n (pc' := 1) rfl rfl rfl ?_
          refine h_getR (pc' := 4) rfl rfl rfl rfl rfl ?_
          refine h_iload_n (pc' := 5) rfl rfl rfl ?_
          refine h_bipush (pc' := 7) (x := (Int32.ofInt 6)) rfl rfl cb_6 ?_
          refine h_imul (pc' := 8) rfl rfl hz2 ci_6 rfl (by have g0 := h_rgv hz2; omega) (by have g0 := h_rgv hz2; omega) (fun z89 hz89 => ?_)
          refine h_iload_n (pc' := 9) rfl rfl rfl ?_
          refine h_iadd (pc' := 10) rfl rfl hz89 hz4 rfl (by have g0 := h_rgv hz4; omega) (by have g0 := h_rgv hz4; omega) (fun z90 hz90 => ?_)
          clear hz89
          refine h_iald (pc' := 11) (v := s88 80 (((s0 0 (b3 + 1)) * 6) + (s0 0 (b3 + 2)))) rfl rfl rfl hz90 (by omega) (by omega) rfl (fun z91 hz91 => ?_)
          have tz91 := ty_80 Is88 (((s0 0 (b3 + 1)) * 6) + (s0 0 (b3 + 2)))
          clear hz90
          refine h_iret rfl rfl (h_Kv ?_)
          refine h_istore_n (pc' := 45) (M := [(3, .int z91), (0, .ref 9), (1, .int z2), (2, .int z4)]) rfl rfl rfl rfl ?_
          refine h_iload_n (pc' := 46) rfl rfl rfl ?_
          refine h_sipush (pc' := 49) (x := (Int32.ofInt 1000)) rfl rfl cs_1000 ?_
          refine h_cge (tg := 56) (pc' := 52) rfl rfl rfl hz91 ci_1000 (fun c92 => ?_) (fun c92 => ?_)
          · refine h_bipush (pc' := 58) (x := (Int32.ofInt (-4))) rfl rfl cb_m4 ?_
            refine h_iret rfl rfl (h_Kv ?_)
            clear hz2 hz4 hz91
            refine h_aload_n (pc' := 444) rfl rfl rfl ?_
            refine h_aload_n (pc' := 445) rfl rfl rfl ?_
            refine h_iload_n (pc' := 446) rfl rfl rfl ?_
            refine h_iconst (pc' := 447) (x := (Int32.ofInt 1)) rfl rfl rfl ?_
            refine h_iadd (pc' := 448) rfl rfl hy3 ci_1 rfl (by omega) (by omega) (fun z93 hz93 => ?_)
            refine h_iald (pc' := 449) (v := s0 0 (b3 + 1)) rfl rfl rfl hz93 (by omega) (by omega) (Zs88 _) (fun z94 hz94 => ?_)
            have tz94 := h_rgv hz94
            clear hz93
            refine h_aload_n (pc' := 450) rfl rfl rfl ?_
            refine h_iload_n (pc' := 451) rfl rfl rfl ?_
            refine h_iconst (pc' := 452) (x := (Int32.ofInt 2)) rfl rfl rfl ?_
            refine h_iadd (pc' := 453) rfl rfl hy3 ci_2 rfl (by omega) (by omega) (fun z95 hz95 => ?_)
            refine h_iald (pc' := 454) (v := s0 0 (b3 + 2)) rfl rfl rfl hz95 (by omega) (by omega) (Zs88 _) (fun z96 hz96 => ?_)
            have tz96 := h_rgv hz96
            clear hz95
            refine h_call (sp := false) (pc' := 457) (M := [(0, .ref 98), (1, .int z94), (2, .int z96)]) rfl rfl rfl rfl rfl rfl rfl rfl ?_
            refine h_aload_n (pc' := 1) rfl rfl rfl ?_
            refine h_iload_n (pc' := 2) rfl rfl rfl ?_
            refine h_call (sp := false) (pc' := 5) (M := [(0, .ref 98), (1, .int z94)]) rfl rfl rfl rfl rfl rfl rfl rfl ?_
            refine h_iload_n (pc' := 1) rfl rfl rfl ?_
            refine h_i2l (pc' := 2) rfl rfl hz94 (fun z97 hz97 => ?_)
            refine h_lconst (pc' := 3) (x := (Int64.ofInt 0)) rfl rfl rfl ?_
            refine h_aload_n (pc' := 4) rfl rfl rfl ?_
            refine h_getI (pc' := 7) (v := s0 98 1) rfl rfl rfl rfl rfl es88_5 (fun z98 hz98 => ?_)
            have tz98 := tf_98_1 I0
            refine h_iconst (pc' := 8) (x := (Int32.ofInt 1)) rfl rfl rfl ?_
            refine h_isub (pc' := 9) rfl rfl hz98 ci_1 rfl (by omega) (by omega) (fun z99 hz99 => ?_)
            clear hz98
            refine h_i2l (pc' := 10) rfl rfl hz99 (fun z100 hz100 => ?_)
            clear hz99
            refine h_calls (pc' := 13) (M := [(0, .long z97), (2, .long (Int64.ofInt 0)), (4, .long z100)]) rfl rfl rfl rfl rfl rfl ?_
            refine h_lload_n (pc' := 1) rfl rfl rfl ?_
            refine h_lload_n (pc' := 2) rfl rfl rfl ?_
            refine h_lcmp (pc' := 3) rfl rfl hz97 cl_0 (fun z101 hz101 => ?_)
            refine h_zlt (tg := 17) (pc' := 6) rfl rfl rfl rfl (fun c102 => absurd c102 (by omega)) (fun c102 => ?_)
            replace c102 := (h_lcr hz101).2.1 c102
            clear hz101
            refine h_lload_n (pc' := 7) rfl rfl rfl ?_
            refine h_lload (pc' := 9) rfl rfl rfl ?_
            refine h_lcmp (pc' := 10) rfl rfl hz97 hz100 (fun z103 hz103 => ?_)
            refine h_zgt (tg := 17) (pc' := 13) rfl rfl rfl rfl (fun c104 => absurd c104 (by omega)) (fun c104 => ?_)
            replace c104 := (h_lcr hz103).2.2.1 c104
            clear hz103
            refine h_iconst (pc' := 14) (x := (Int32.ofInt 1)) rfl rfl rfl ?_
            refine h_goto (pc' := 18) rfl rfl ?_
            refine h_zret rfl rfl ci_1 (by omega) (h_Kv ?_)
            clear hz100 hz97
            refine h_zret rfl rfl ci_1 (by omega) (h_Kv ?_)
            refine h_zeq (tg := 16) (pc' := 8) rfl rfl rfl ci_1 (fun c105 => absurd c105 (by omega)) (fun c105 => ?_)
            refine h_aload_n (pc' := 9) rfl rfl rfl ?_
            refine h_iload_n (pc' := 10) rfl rfl rfl ?_
            refine h_call (sp := false) (pc' := 13) (M := [(0, .ref 98), (1, .int z96)]) rfl rfl rfl rfl rfl rfl rfl rfl ?_
            refine h_iload_n (pc' := 1) rfl rfl rfl ?_
            refine h_i2l (pc' := 2) rfl rfl hz96 (fun z106 hz106 => ?_)
            refine h_lconst (pc' := 3) (x := (Int64.ofInt 0)) rfl rfl rfl ?_
            refine h_aload_n (pc' := 4) rfl rfl rfl ?_
            refine h_getI (pc' := 7) (v := s0 98 1) rfl rfl rfl rfl rfl es88_5 (fun z107 hz107 => ?_)
            refine h_iconst (pc' := 8) (x := (Int32.ofInt 1)) rfl rfl rfl ?_
            refine h_isub (pc' := 9) rfl rfl hz107 ci_1 rfl (by omega) (by omega) (fun z108 hz108 => ?_)
            clear hz107
            refine h_i2l (pc' := 10) rfl rfl hz108 (fun z109 hz109 => ?_)
            clear hz108
            refine h_calls (pc' := 13) (M := [(0, .long z106), (2, .long (Int64.ofInt 0)), (4, .long z109)]) rfl rfl rfl rfl rfl rfl ?_
            refine h_lload_n (pc' := 1) rfl rfl rfl ?_
            refine h_lload_n (pc' := 2) rfl rfl rfl ?_
            refine h_lcmp (pc' := 3) rfl rfl hz106 cl_0 (fun z110 hz110 => ?_)
            refine h_zlt (tg := 17) (pc' := 6) rfl rfl rfl rfl (fun c111 => absurd c111 (by omega)) (fun c111 => ?_)
            replace c111 := (h_lcr hz110).2.1 c111
            clear hz110
            refine h_lload_n (pc' := 7) rfl rfl rfl ?_
            refine h_lload (pc' := 9) rfl rfl rfl ?_
            refine h_lcmp (pc' := 10) rfl rfl hz106 hz109 (fun z112 hz112 => ?_)
            refine h_zgt (tg := 17) (pc' := 13) rfl rfl rfl rfl (fun c113 => absurd c113 (by omega)) (fun c113 => ?_)
            replace c113 := (h_lcr hz112).2.2.1 c113
            clear hz112
            refine h_iconst (pc' := 14) (x := (Int32.ofInt 1)) rfl rfl rfl ?_
            refine h_goto (pc' := 18) rfl rfl ?_
            refine h_zret rfl rfl ci_1 (by omega) (h_Kv ?_)
            clear hz106 hz109
            refine h_zret rfl rfl ci_1 (by omega) (h_Kv ?_)
            refine h_zne (tg := 18) (pc' := 16) rfl rfl rfl ci_1 (fun c114 => ?_) (fun c114 => absurd c114 (by omega))
            refine h_aload_n (pc' := 19) rfl rfl rfl ?_
            refine h_iconst (pc' := 20) (x := (Int32.ofInt 0)) rfl rfl rfl ?_
            refine h_call (sp := false) (pc' := 23) (M := [(0, .ref 98), (1, .int (Int32.ofInt 0))]) rfl rfl rfl rfl rfl rfl rfl rfl ?_
            refine n_lays _ Is88  (fun s116 Is116 Gs116 ps116_0 => h_Kn ?_)
            have Zs116 : ∀ i, s116 0 i = s0 0 i := fun i => (Gs116 0 i rfl).trans (Zs88 i)
            have Fs116 : h_F (fun _ _ => true) s116 s0 := fun _ _ h => by cases h
            have es116_0 : s116 64 1 = s0 64 1 := (Gs116 64 1 rfl).trans es88_0
            have es116_1 : s116 98 11 = s0 98 11 := (Gs116 98 11 rfl).trans es88_1
            have es116_2 : s116 64 4 = s0 64 4 := (Gs116 64 4 rfl).trans es88_2
            have es116_3 : s116 98 16 = s0 98 16 := (Gs116 98 16 rfl).trans es88_3
            have es116_4 : s116 10 8 = s0 10 8 := (Gs116 10 8 rfl).trans es88_4
            have es116_5 : s116 98 1 = s0 98 1 := (Gs116 98 1 rfl).trans es88_5
            refine h_aload_n (pc' := 24) rfl rfl rfl ?_
            refine h_getR (pc' := 27) rfl rfl rfl rfl rfl ?_
            refine h_bipush (pc' := 29) (x := (Int32.ofInt 6)) rfl rfl cb_6 ?_
            refine h_iload_n (pc' := 30) rfl rfl rfl ?_
            refine h_imul (pc' := 31) rfl rfl ci_6 hz94 rfl (by have g0 := h_rgv hz94; omega) (by have g0 := h_rgv hz94; omega) (fun z117 hz117 => ?_)
            refine h_iload_n (pc' := 32) rfl rfl rfl ?_
            refine h_iadd (pc' := 33) rfl rfl hz117 hz96 rfl (by have g0 := h_rgv hz96; omega) (by have g0 := h_rgv hz96; omega) (fun z118 hz118 => ?_)
            clear hz117
            refine h_iald (pc' := 34) (v := s116 105 ((6 * (s0 0 (b3 + 1))) + (s0 0 (b3 + 2)))) rfl rfl rfl hz118 (by omega) (by omega) rfl (fun z119 hz119 => ?_)
            have tz119 := ty_105 Is116 ((6 * (s0 0 (b3 + 1))) + (s0 0 (b3 + 2)))
            clear hz118
            refine h_istore_n (pc' := 35) (M := [(3, .int z119), (0, .ref 98), (1, .int z94), (2, .int z96)]) rfl rfl rfl rfl ?_
            refine h_iload_n (pc' := 36) rfl rfl rfl ?_
            refine h_ldc (pc' := 38) (x := (Int32.ofInt 1000000)) rfl rfl rfl ?_
            refine h_cge (tg := 45) (pc' := 41) rfl rfl rfl hz119 ci_1000000 (fun c120 => ?_) (fun c120 => ?_)
            · refine h_bipush (pc' := 47) (x := (Int32.ofInt (-4))) rfl rfl cb_m4 ?_
              refine h_iret rfl rfl (h_Kv ?_)
              clear hz119 hz94 hz96
              refine h_ceq (tg := 1441) (pc' := 460) rfl rfl rfl ci_m4 ci_m4 (fun c121 => ?_) (fun c121 => absurd (Int.le_antisymm (by omega) (by omega)) c121)
              exact kk _ Is116 (by first | exact d_tape.le j0 (Int.le_antisymm (by omega) (by omega)) (by omega) (fun j => (Gs116 65 j rfl).trans ((Gs88 65 j rfl))) (fun j => (Gs116 102 j rfl).trans ((Gs88 102 j rfl))) | (exfalso; omega)) (Int.le_antisymm (by omega) (by omega)) (c_R.fr (c_R.fr j2 I0 Gs88 rfl) Is88 Gs116 rfl) (g_ti.e j3 ((funext (fun j => Gs116 100 j rfl)).trans (funext (fun j => Gs88 100 j rfl))))
            · refine h_iload_n (pc' := 42) rfl rfl rfl ?_
              refine h_goto (pc' := 47) rfl rfl ?_
              refine h_iret rfl rfl (h_Kv ?_)
              clear hz94 hz96
              refine h_ceq (tg := 1441) (pc' := 460) rfl rfl rfl ci_m4 hz119 (fun c122 => absurd c122 (by omega)) (fun c122 => ?_)
              clear hz119
              refine h_iconst (pc' := 461) (x := (Int32.ofInt 0)) rfl rfl rfl ?_
              have gd := c_R.deg j2 I0 j3 (g_DX_t ps88_0 rfl rfl rfl rfl rfl rfl) (g_DM_t ps116_0 (Gs88 98 1 rfl) (Gs88 99 18 rfl) (funext (fun j => Gs88 99 j rfl)) (funext (fun j => Gs88 100 j rfl)))
              have ga := gd (s0 0 (b3 + 1)) (s0 0 (b3 + 2)) (by omega) (by omega) (by omega) (by omega)
              exfalso
              omega
          · refine h_iload_n (pc' := 53) rfl rfl rfl ?_
            refine h_goto (pc' := 58) rfl rfl ?_
            refine h_iret rfl rfl (h_Kv ?_)
            clear hz2 hz4
            refine h_aload_n (pc' := 444) rfl rfl rfl ?_
            refine h_aload_n (pc' := 445) rfl rfl rfl ?_
            refine h_iload_n (pc' := 446) rfl rfl rfl ?_
            refine h_iconst (pc' := 447) (x := (Int32.ofInt 1)) rfl rfl rfl ?_
            refine h_iadd (pc' := 448) rfl rfl hy3 ci_1 rfl (by omega) (by omega) (fun z123 hz123 => ?_)
            refine h_iald (pc' := 449) (v := s0 0 (b3 + 1)) rfl rfl rfl hz123 (by omega) (by omega) (Zs88 _) (fun z124 hz124 => ?_)
            have tz124 := h_rgv hz124
            clear hz123
            refine h_aload_n (pc' := 450) rfl rfl rfl ?_
            refine h_iload_n (pc' := 451) rfl rfl rfl ?_
            refine h_iconst (pc' := 452) (x := (Int32.ofInt 2)) rfl rfl rfl ?_
            refine h_iadd (pc' := 453) rfl rfl hy3 ci_2 rfl (by omega) (by omega) (fun z125 hz125 => ?_)
            refine h_iald (pc' := 454) (v := s0 0 (b3 + 2)) rfl rfl rfl hz125 (by omega) (by omega) (Zs88 _) (fun z126 hz126 => ?_)
            have tz126 := h_rgv hz126
            clear hz125
            refine h_call (sp := false) (pc' := 457) (M := [(0, .ref 98), (1, .int z124), (2, .int z126)]) rfl rfl rfl rfl rfl rfl rfl rfl ?_
            refine h_aload_n (pc' := 1) rfl rfl rfl ?_
            refine h_iload_n (pc' := 2) rfl rfl rfl ?_
            refine h_call (sp := false) (pc' := 5) (M := [(0, .ref 98), (1, .int z124)]) rfl rfl rfl rfl rfl rfl rfl rfl ?_
            refine h_iload_n (pc' := 1) rfl rfl rfl ?_
            refine h_i2l (pc' := 2) rfl rfl hz124 (fun z127 hz127 => ?_)
            refine h_lconst (pc' := 3) (x := (Int64.ofInt 0)) rfl rfl rfl ?_
            refine h_aload_n (pc' := 4) rfl rfl rfl ?_
            refine h_getI (pc' := 7) (v := s0 98 1) rfl rfl rfl rfl rfl es88_5 (fun z128 hz128 => ?_)
            have tz128 := tf_98_1 I0
            refine h_iconst (pc' := 8) (x := (Int32.ofInt 1)) rfl rfl rfl ?_
            refine h_isub (pc' := 9) rfl rfl hz128 ci_1 rfl (by omega) (by omega) (fun z129 hz129 => ?_)
            clear hz128
            refine h_i2l (pc' := 10) rfl rfl hz129 (fun z130 hz130 => ?_)
            clear hz129
            refine h_calls (pc' := 13) (M := [(0, .long z127), (2, .long (Int64.ofInt 0)), (4, .long z130)]) rfl rfl rfl rfl rfl rfl ?_
            refine h_lload_n (pc' := 1) rfl rfl rfl ?_
            refine h_lload_n (pc' := 2) rfl rfl rfl ?_
            refine h_lcmp (pc' := 3) rfl rfl hz127 cl_0 (fun z131 hz131 => ?_)
            refine h_zlt (tg := 17) (pc' := 6) rfl rfl rfl rfl (fun c132 => absurd c132 (by omega)) (fun c132 => ?_)
            replace c132 := (h_lcr hz131).2.1 c132
            clear hz131
            refine h_lload_n (pc' := 7) rfl rfl rfl ?_
            refine h_lload (pc' := 9) rfl rfl rfl ?_
            refine h_lcmp (pc' := 10) rfl rfl hz127 hz130 (fun z133 hz133 => ?_)
            refine h_zgt (tg := 17) (pc' := 13) rfl rfl rfl rfl (fun c134 => absurd c134 (by omega)) (fun c134 => ?_)
            replace c134 := (h_lcr hz133).2.2.1 c134
            clear hz133
            refine h_iconst (pc' := 14) (x := (Int32.ofInt 1)) rfl rfl rfl ?_
            refine h_goto (pc' := 18) rfl rfl ?_
            refine h_zret rfl rfl ci_1 (by omega) (h_Kv ?_)
            clear hz127 hz130
            refine h_zret rfl rfl ci_1 (by omega) (h_Kv ?_)
            refine h_zeq (tg := 16) (pc' := 8) rfl rfl rfl ci_1 (fun c135 => absurd c135 (by omega)) (fun c135 => ?_)
            refine h_aload_n (pc' := 9) rfl rfl rfl ?_
            refine h_iload_n (pc' := 10) rfl rfl rfl ?_
            refine h_call (sp := false) (pc' := 13) (M := [(0, .ref 98), (1, .int z126)]) rfl rfl rfl rfl rfl rfl rfl rfl ?_
            refine h_iload_n (pc' := 1) rfl rfl rfl ?_
            refine h_i2l (pc' := 2) rfl rfl hz126 (fun z136 hz136 => ?_)
            refine h_lconst (pc' := 3) (x := (Int64.ofInt 0)) rfl rfl rfl ?_
            refine h_aload_n (pc' := 4) rfl rfl rfl ?_
            refine h_getI (pc' := 7) (v := s0 98 1) rfl rfl rfl rfl rfl es88_5 (fun z137 hz137 => ?_)
            refine h_iconst (pc' := 8) (x := (Int32.ofInt 1)) rfl rfl rfl ?_
            refine h_isub (pc' := 9) rfl rfl hz137 ci_1 rfl (by omega) (by omega) (fun z138 hz138 => ?_)
            clear hz137
            refine h_i2l (pc' := 10) rfl rfl hz138 (fun z139 hz139 => ?_)
            clear hz138
            refine h_calls (pc' := 13) (M := [(0, .long z136), (2, .long (Int64.ofInt 0)), (4, .long z139)]) rfl rfl rfl rfl rfl rfl ?_
            refine h_lload_n (pc' := 1) rfl rfl rfl ?_
            refine h_lload_n (pc' := 2) rfl rfl rfl ?_
            refine h_lcmp (pc' := 3) rfl rfl hz136 cl_0 (fun z140 hz140 => ?_)
            refine h_zlt (tg := 17) (pc' := 6) rfl rfl rfl rfl (fun c141 => absurd c141 (by omega)) (fun c141 => ?_)
            replace c141 := (h_lcr hz140).2.1 c141
            clear hz140
            refine h_lload_n (pc' := 7) rfl rfl rfl ?_
            refine h_lload (pc' := 9) rfl rfl rfl ?_
            refine h_lcmp (pc' := 10) rfl rfl hz136 hz139 (fun z142 hz142 => ?_)
            refine h_zgt (tg := 17) (pc' := 13) rfl rfl rfl rfl (fun c143 => absurd c143 (by omega)) (fun c143 => ?_)
            replace c143 := (h_lcr hz142).2.2.1 c143
            clear hz142
            refine h_iconst (pc' := 14) (x := (Int32.ofInt 1)) rfl rfl rfl ?_
            refine h_goto (pc' := 18) rfl rfl ?_
            refine h_zret rfl rfl ci_1 (by omega) (h_Kv ?_)
            clear hz136 hz139
            refine h_zret rfl rfl ci_1 (by omega) (h_Kv ?_)
            refine h_zne (tg := 18) (pc' := 16) rfl rfl rfl ci_1 (fun c144 => ?_) (fun c144 => absurd c144 (by omega))
            refine h_aload_n (pc' := 19) rfl rfl rfl ?_
            refine h_iconst (pc' := 20) (x := (Int32.ofInt 0)) rfl rfl rfl ?_
            refine h_call (sp := false) (pc' := 23) (M := [(0, .ref 98), (1, .int (Int32.ofInt 0))]) rfl rfl rfl rfl rfl rfl rfl rfl ?_
            refine n_lays _ Is88  (fun s146 Is146 Gs146 ps146_0 => h_Kn ?_)
            have Zs146 : ∀ i, s146 0 i = s0 0 i := fun i => (Gs146 0 i rfl).trans (Zs88 i)
            have Fs146 : h_F (fun _ _ => true) s146 s0 := fun _ _ h => by cases h
            have es146_0 : s146 64 1 = s0 64 1 := (Gs146 64 1 rfl).trans es88_0
            have es146_1 : s146 98 11 = s0 98 11 := (Gs146 98 11 rfl).trans es88_1
            have es146_2 : s146 64 4 = s0 64 4 := (Gs146 64 4 rfl).trans es88_2
            have es146_3 : s146 98 16 = s0 98 16 := (Gs146 98 16 rfl).trans es88_3
            have es146_4 : s146 10 8 = s0 10 8 := (Gs146 10 8 rfl).trans es88_4
            have es146_5 : s146 98 1 = s0 98 1 := (Gs146 98 1 rfl).trans es88_5
            refine h_aload_n (pc' := 24) rfl rfl rfl ?_
            refine h_getR (pc' := 27) rfl rfl rfl rfl rfl ?_
            refine h_bipush (pc' := 29) (x := (Int32.ofInt 6)) rfl rfl cb_6 ?_
            refine h_iload_n (pc' := 30) rfl rfl rfl ?_
            refine h_imul (pc' := 31) rfl rfl ci_6 hz124 rfl (by have g0 := h_rgv hz124; omega) (by have g0 := h_rgv hz124; omega) (fun z147 hz147 => ?_)
            refine h_iload_n (pc' := 32) rfl rfl rfl ?_
            refine h_iadd (pc' := 33) rfl rfl hz147 hz126 rfl (by have g0 := h_rgv hz126; omega) (by have g0 := h_rgv hz126; omega) (fun z148 hz148 => ?_)
            clear hz147
            refine h_iald (pc' := 34) (v := s146 105 ((6 * (s0 0 (b3 + 1))) + (s0 0 (b3 + 2)))) rfl rfl rfl hz148 (by omega) (by omega) rfl (fun z149 hz149 => ?_)
            have tz149 := ty_105 Is146 ((6 * (s0 0 (b3 + 1))) + (s0 0 (b3 + 2)))
            clear hz148
            refine h_istore_n (pc' := 35) (M := [(3, .int z149), (0, .ref 98), (1, .int z124), (2, .int z126)]) rfl rfl rfl rfl ?_
            refine h_iload_n (pc' := 36) rfl rfl rfl ?_
            refine h_ldc (pc' := 38) (x := (Int32.ofInt 1000000)) rfl rfl rfl ?_
            refine h_cge (tg := 45) (pc' := 41) rfl rfl rfl hz149 ci_1000000 (fun c150 => ?_) (fun c150 => ?_)
            · refine h_bipush (pc' := 47) (x := (Int32.ofInt (-4))) rfl rfl cb_m4 ?_
              refine h_iret rfl rfl (h_Kv ?_)
              clear hz124 hz126 hz149
              refine h_ceq (tg := 1441) (pc' := 460) rfl rfl rfl hz91 ci_m4 (fun c151 => absurd c151 (by omega)) (fun c151 => ?_)
              clear hz91
              refine h_iconst (pc' := 461) (x := (Int32.ofInt 0)) rfl rfl rfl ?_
              have gd := c_R.deg j2 I0 j3 (g_DX_t ps88_0 rfl rfl rfl rfl rfl rfl) (g_DM_t ps146_0 (Gs88 98 1 rfl) (Gs88 99 18 rfl) (funext (fun j => Gs88 99 j rfl)) (funext (fun j => Gs88 100 j rfl)))
              have ga := gd (s0 0 (b3 + 1)) (s0 0 (b3 + 2)) (by omega) (by omega) (by omega) (by omega)
              exfalso
              omega
            · refine h_iload_n (pc' := 42) rfl rfl rfl ?_
              refine h_goto (pc' := 47) rfl rfl ?_
              refine h_iret rfl rfl (h_Kv ?_)
              clear hz124 hz126
              refine h_ceq (tg := 1441) (pc' := 460) rfl rfl rfl hz91 hz149 (fun c152 => ?_) (fun c152 => ?_)
              · clear hz149 hz91
                exact kk _ Is146 (by first | exact d_tape.le j0 (Int.le_antisymm (by omega) (by omega)) (by omega) (fun j => (Gs146 65 j rfl).trans ((Gs88 65 j rfl))) (fun j => (Gs146 102 j rfl).trans ((Gs88 102 j rfl))) | (exfalso; omega)) (Int.le_antisymm (by omega) (by omega)) (c_R.fr (c_R.fr j2 I0 Gs88 rfl) Is88 Gs146 rfl) (g_ti.e j3 ((funext (fun j => Gs146 100 j rfl)).trans (funext (fun j => Gs88 100 j rfl))))
              · clear hz149 hz91
                refine h_iconst (pc' := 461) (x := (Int32.ofInt 0)) rfl rfl rfl ?_
                have gd := c_R.deg j2 I0 j3 (g_DX_t ps88_0 rfl rfl rfl rfl rfl rfl) (g_DM_t ps146_0 (Gs88 98 1 rfl) (Gs88 99 18 rfl) (funext (fun j => Gs88 99 j rfl)) (funext (fun j => Gs88 100 j rfl)))
                have ga := gd (s0 0 (b3 + 1)) (s0 0 (b3 + 2)) (by omega) (by omega) (by omega) (by omega)
                exfalso
                omega
