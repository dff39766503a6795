set_option maxHeartbeats 100000000 in
theorem g_case_726 {ns : Nat} (hns : ns ≤ 320) (s0 : h_S) (I0 : h_I s0) (j0 : d_tape s0 s0) (j1 : s0 64 4 = s0 98 16) (j2 : c_R true s0) (j3 : g_ti s0) (j4 : g_SH s0) (j5 : s0 90 2 = s0 98 29) (y3 : Int32) (b3 : Int) (hy3 : y3.toInt = b3) (hr : 0 ≤ b3 ∧ b3 + 5 ≤ ns) {Q : Option Value → h_S → Prop} (kk : ∀ τ, h_I τ → (d_tape τ τ) → (τ 64 4 = τ 98 16) → (c_R true τ) → (g_ti τ) → (g_SH τ) → (τ 90 2 = τ 98 29) → h_T g_P (g_Y ns) 225 1441 [(0, .ref 0), (1, .ref 9), (2, .ref 98), (3, .int y3)] [] τ Q) : h_T g_P (g_Y ns) 225 726 [(0, .ref 0), (1, .ref 9), (2, .ref 98), (3, .int y3)] [] s0 Q := by
  have F0_ : h_F (fun _ _ => true) s0 s0 := h_F.rf
  have j0_ := j0.2
  have i0 := tf_64_1 I0
  have i1 := tf_98_11 I0
  have i2 := tf_64_4 I0
  have i3 := tf_98_16 I0
  have i4 := tf_90_2 I0
  have i5 := tf_98_29 I0
  have i6 := tf_10_8 I0
  have i7 := tf_98_1 I0
  have i8 := tf_10_9 I0
  have i9 := tf_98_2 I0
  have j2_ := j2.sz
  refine h_aload_n (pc' := 727) rfl rfl rfl ?_
  refine h_aload_n (pc' := 728) rfl rfl rfl ?_
  refine h_iload_n (pc' := 729) rfl rfl rfl ?_
  refine h_iconst (pc' := 730) (x := (Int32.ofInt 1)) rfl rfl rfl ?_
  refine h_iadd (pc' := 731) rfl rfl hy3 ci_1 rfl (by omega) (by omega) (fun z1 hz1 => ?_)
  refine h_iald (pc' := 732) (v := s0 0 (b3 + 1)) rfl rfl rfl hz1 (by omega) (by omega) rfl (fun z2 hz2 => ?_)
  have tz2 := h_rgv hz2
  clear hz1
  refine h_aload_n (pc' := 733) rfl rfl rfl ?_
  refine h_iload_n (pc' := 734) rfl rfl rfl ?_
  refine h_iconst (pc' := 735) (x := (Int32.ofInt 2)) rfl rfl rfl ?_
  refine h_iadd (pc' := 736) rfl rfl hy3 ci_2 rfl (by omega) (by omega) (fun z3 hz3 => ?_)
  refine h_iald (pc' := 737) (v := s0 0 (b3 + 2)) rfl rfl rfl hz3 (by omega) (by omega) rfl (fun z4 hz4 => ?_)
  have tz4 := h_rgv hz4
  clear hz3
  refine h_call (sp := false) (pc' := 740) (M := [(0, .ref 9), (1, .int z2), (2, .int z4)]) rfl rfl rfl rfl rfl rfl rfl rfl ?_
  refine h_aload_n (pc' := 1) rfl rfl rfl ?_
  refine h_getR (pc' := 4) rfl rfl rfl rfl rfl ?_
  refine h_iload_n (pc' := 5) rfl rfl rfl ?_
  refine h_call (sp := false) (pc' := 8) (M := [(0, .ref 10), (1, .int z2)]) rfl rfl rfl rfl rfl rfl rfl rfl ?_
  refine h_iload_n (pc' := 1) rfl rfl rfl ?_
  refine h_zlt (tg := 16) (pc' := 4) rfl rfl rfl hz2 (fun c5 => ?_) (fun c5 => ?_)
  · refine h_iconst (pc' := 17) (x := (Int32.ofInt 0)) rfl rfl rfl ?_
    refine h_zret rfl rfl ci_0 (by omega) (h_Kv ?_)
    refine h_zeq (tg := 22) (pc' := 11) rfl rfl rfl ci_0 (fun c6 => ?_) (fun c6 => absurd (Int.le_antisymm (by omega) (by omega)) c6)
    refine h_iconst (pc' := 23) (x := (Int32.ofInt (-1))) rfl rfl rfl ?_
    refine h_iret rfl rfl (h_Kv ?_)
    clear hz2 hz4
    refine h_pop (pc' := 741) rfl rfl rfl ?_
    refine h_aload_n (pc' := 742) rfl rfl rfl ?_
    refine h_aload_n (pc' := 743) rfl rfl rfl ?_
    refine h_iload_n (pc' := 744) rfl rfl rfl ?_
    refine h_iconst (pc' := 745) (x := (Int32.ofInt 1)) rfl rfl rfl ?_
    refine h_iadd (pc' := 746) rfl rfl hy3 ci_1 rfl (by omega) (by omega) (fun z7 hz7 => ?_)
    refine h_iald (pc' := 747) (v := s0 0 (b3 + 1)) rfl rfl rfl hz7 (by omega) (by omega) rfl (fun z8 hz8 => ?_)
    have tz8 := h_rgv hz8
    clear hz7
    refine h_aload_n (pc' := 748) rfl rfl rfl ?_
    refine h_iload_n (pc' := 749) rfl rfl rfl ?_
    refine h_iconst (pc' := 750) (x := (Int32.ofInt 2)) rfl rfl rfl ?_
    refine h_iadd (pc' := 751) rfl rfl hy3 ci_2 rfl (by omega) (by omega) (fun z9 hz9 => ?_)
    refine h_iald (pc' := 752) (v := s0 0 (b3 + 2)) rfl rfl rfl hz9 (by omega) (by omega) rfl (fun z10 hz10 => ?_)
    have tz10 := h_rgv hz10
    clear hz9
    refine h_call (sp := false) (pc' := 755) (M := [(0, .ref 98), (1, .int z8), (2, .int z10)]) rfl rfl rfl rfl rfl rfl rfl rfl ?_
    refine h_aload_n (pc' := 1) rfl rfl rfl ?_
    refine h_iload_n (pc' := 2) rfl rfl rfl ?_
    refine h_iload_n (pc' := 3) rfl rfl rfl ?_
    refine h_call (sp := false) (pc' := 6) (M := [(0, .ref 98), (1, .int z8), (2, .int z10)]) rfl rfl rfl rfl rfl rfl rfl rfl ?_
    refine h_aload_n (pc' := 1) rfl rfl rfl ?_
    refine h_iload_n (pc' := 2) rfl rfl rfl ?_
    refine h_call (sp := false) (pc' := 5) (M := [(0, .ref 98), (1, .int z8)]) rfl rfl rfl rfl rfl rfl rfl rfl ?_
    refine h_iload_n (pc' := 1) rfl rfl rfl ?_
    refine h_i2l (pc' := 2) rfl rfl hz8 (fun z11 hz11 => ?_)
    refine h_lconst (pc' := 3) (x := (Int64.ofInt 0)) rfl rfl rfl ?_
    refine h_aload_n (pc' := 4) rfl rfl rfl ?_
    refine h_getI (pc' := 7) (v := s0 98 1) rfl rfl rfl rfl rfl rfl (fun z12 hz12 => ?_)
    have tz12 := tf_98_1 I0
    refine h_iconst (pc' := 8) (x := (Int32.ofInt 1)) rfl rfl rfl ?_
    refine h_isub (pc' := 9) rfl rfl hz12 ci_1 rfl (by omega) (by omega) (fun z13 hz13 => ?_)
    clear hz12
    refine h_i2l (pc' := 10) rfl rfl hz13 (fun z14 hz14 => ?_)
    clear hz13
    refine h_calls (pc' := 13) (M := [(0, .long z11), (2, .long (Int64.ofInt 0)), (4, .long z14)]) rfl rfl rfl rfl rfl rfl ?_
    refine h_lload_n (pc' := 1) rfl rfl rfl ?_
    refine h_lload_n (pc' := 2) rfl rfl rfl ?_
    refine h_lcmp (pc' := 3) rfl rfl hz11 cl_0 (fun z15 hz15 => ?_)
    refine h_zlt (tg := 17) (pc' := 6) rfl rfl rfl rfl (fun c16 => ?_) (fun c16 => absurd c16 (by omega))
    replace c16 := (h_lcr hz15).1 c16
    clear hz15
    refine h_iconst (pc' := 18) (x := (Int32.ofInt 0)) rfl rfl rfl ?_
    refine h_zret rfl rfl ci_0 (by omega) (h_Kv ?_)
    clear hz11 hz14
    refine h_zret rfl rfl ci_0 (by omega) (h_Kv ?_)
    refine h_zeq (tg := 16) (pc' := 8) rfl rfl rfl ci_0 (fun c17 => ?_) (fun c17 => absurd (Int.le_antisymm (by omega) (by omega)) c17)
    refine h_iconst (pc' := 17) (x := (Int32.ofInt (-1))) rfl rfl rfl ?_
    refine h_iret rfl rfl (h_Kv ?_)
    refine h_iret rfl rfl (h_Kv ?_)
    clear hz10 hz8
    refine h_pop (pc' := 756) rfl rfl rfl ?_
    refine h_goto (pc' := 1441) rfl rfl ?_
    exact kk _ I0 (by first | exact d_tape.le j0 (Int.le_antisymm (by omega) (by omega)) (by omega) (fun j => rfl) (fun j => rfl) | (exfalso; omega)) (Int.le_antisymm (by omega) (by omega)) j2 (g_ti.e j3 rfl) (g_SH.e j4 rfl rfl rfl rfl rfl rfl) (Int.le_antisymm (by omega) (by omega))
  · refine h_iload_n (pc' := 5) rfl rfl rfl ?_
    refine h_aload_n (pc' := 6) rfl rfl rfl ?_
    refine h_getI (pc' := 9) (v := s0 10 8) rfl rfl rfl rfl rfl rfl (fun z18 hz18 => ?_)
    have tz18 := tf_10_8 I0
    refine h_cge (tg := 16) (pc' := 12) rfl rfl rfl hz2 hz18 (fun c19 => ?_) (fun c19 => ?_)
    · clear hz18
      refine h_iconst (pc' := 17) (x := (Int32.ofInt 0)) rfl rfl rfl ?_
      refine h_zret rfl rfl ci_0 (by omega) (h_Kv ?_)
      refine h_zeq (tg := 22) (pc' := 11) rfl rfl rfl ci_0 (fun c20 => ?_) (fun c20 => absurd (Int.le_antisymm (by omega) (by omega)) c20)
      refine h_iconst (pc' := 23) (x := (Int32.ofInt (-1))) rfl rfl rfl ?_
      refine h_iret rfl rfl (h_Kv ?_)
      clear hz2 hz4
      refine h_pop (pc' := 741) rfl rfl rfl ?_
      refine h_aload_n (pc' := 742) rfl rfl rfl ?_
      refine h_aload_n (pc' := 743) rfl rfl rfl ?_
      refine h_iload_n (pc' := 744) rfl rfl rfl ?_
      refine h_iconst (pc' := 745) (x := (Int32.ofInt 1)) rfl rfl rfl ?_
      refine h_iadd (pc' := 746) rfl rfl hy3 ci_1 rfl (by omega) (by omega) (fun z21 hz21 => ?_)
      refine h_iald (pc' := 747) (v := s0 0 (b3 + 1)) rfl rfl rfl hz21 (by omega) (by omega) rfl (fun z22 hz22 => ?_)
      have tz22 := h_rgv hz22
      clear hz21
      refine h_aload_n (pc' := 748) rfl rfl rfl ?_
      refine h_iload_n (pc' := 749) rfl rfl rfl ?_
      refine h_iconst (pc' := 750) (x := (Int32.ofInt 2)) rfl rfl rfl ?_
      refine h_iadd (pc' := 751) rfl rfl hy3 ci_2 rfl (by omega) (by omega) (fun z23 hz23 => ?_)
      refine h_iald (pc' := 752) (v := s0 0 (b3 + 2)) rfl rfl rfl hz23 (by omega) (by omega) rfl (fun z24 hz24 => ?_)
      have tz24 := h_rgv hz24
      clear hz23
      refine h_call (sp := false) (pc' := 755) (M := [(0, .ref 98), (1, .int z22), (2, .int z24)]) rfl rfl rfl rfl rfl rfl rfl rfl ?_
      refine h_aload_n (pc' := 1) rfl rfl rfl ?_
      refine h_iload_n (pc' := 2) rfl rfl rfl ?_
      refine h_iload_n (pc' := 3) rfl rfl rfl ?_
      refine h_call (sp := false) (pc' := 6) (M := [(0, .ref 98), (1, .int z22), (2, .int z24)]) rfl rfl rfl rfl rfl rfl rfl rfl ?_
      refine h_aload_n (pc' := 1) rfl rfl rfl ?_
      refine h_iload_n (pc' := 2) rfl rfl rfl ?_
      refine h_call (sp := false) (pc' := 5) (M := [(0, .ref 98), (1, .int z22)]) rfl rfl rfl rfl rfl rfl rfl rfl ?_
      refine h_iload_n (pc' := 1) rfl rfl rfl ?_
      refine h_i2l (pc' := 2) rfl rfl hz22 (fun z25 hz25 => ?_)
      refine h_lconst (pc' := 3) (x := (Int64.ofInt 0)) rfl rfl rfl ?_
      refine h_aload_n (pc' := 4) rfl rfl rfl ?_
      refine h_getI (pc' := 7) (v := s0 98 1) rfl rfl rfl rfl rfl rfl (fun z26 hz26 => ?_)
      have tz26 := tf_98_1 I0
      refine h_iconst (pc' := 8) (x := (Int32.ofInt 1)) rfl rfl rfl ?_
      refine h_isub (pc' := 9) rfl rfl hz26 ci_1 rfl (by omega) (by omega) (fun z27 hz27 => ?_)
      clear hz26
      refine h_i2l (pc' := 10) rfl rfl hz27 (fun z28 hz28 => ?_)
      clear hz27
      refine h_calls (pc' := 13) (M := [(0, .long z25), (2, .long (Int64.ofInt 0)), (4, .long z28)]) rfl rfl rfl rfl rfl rfl ?_
      refine h_lload_n (pc' := 1) rfl rfl rfl ?_
      refine h_lload_n (pc' := 2) rfl rfl rfl ?_
      refine h_lcmp (pc' := 3) rfl rfl hz25 cl_0 (fun z29 hz29 => ?_)
      refine h_zlt (tg := 17) (pc' := 6) rfl rfl rfl rfl (fun c30 => absurd c30 (by omega)) (fun c30 => ?_)
      replace c30 := (h_lcr hz29).2.1 c30
      clear hz29
      refine h_lload_n (pc' := 7) rfl rfl rfl ?_
      refine h_lload (pc' := 9) rfl rfl rfl ?_
      refine h_lcmp (pc' := 10) rfl rfl hz25 hz28 (fun z31 hz31 => ?_)
      refine h_zgt (tg := 17) (pc' := 13) rfl rfl rfl rfl (fun c32 => ?_) (fun c32 => absurd c32 (by omega))
      replace c32 := (h_lcr hz31).2.2.2.1 c32
      clear hz31
      refine h_iconst (pc' := 18) (x := (Int32.ofInt 0)) rfl rfl rfl ?_
      refine h_zret rfl rfl ci_0 (by omega) (h_Kv ?_)
      clear hz25 hz28
      refine h_zret rfl rfl ci_0 (by omega) (h_Kv ?_)
      refine h_zeq (tg := 16) (pc' := 8) rfl rfl rfl ci_0 (fun c33 => ?_) (fun c33 => absurd (Int.le_antisymm (by omega) (by omega)) c33)
      refine h_iconst (pc' := 17) (x := (Int32.ofInt (-1))) rfl rfl rfl ?_
      refine h_iret rfl rfl (h_Kv ?_)
      refine h_iret rfl rfl (h_Kv ?_)
      clear hz22 hz24
      refine h_pop (pc' := 756) rfl rfl rfl ?_
      refine h_goto (pc' := 1441) rfl rfl ?_
      exact kk _ I0 (by first | exact d_tape.le j0 (Int.le_antisymm (by omega) (by omega)) (by omega) (fun j => rfl) (fun j => rfl) | (exfalso; omega)) (Int.le_antisymm (by omega) (by omega)) j2 (g_ti.e j3 rfl) (g_SH.e j4 rfl rfl rfl rfl rfl rfl) (Int.le_antisymm (by omega) (by omega))
    · clear hz18
      refine h_iconst (pc' := 13) (x := (Int32.ofInt 1)) rfl rfl rfl ?_
      refine h_goto (pc' := 17) rfl rfl ?_
      refine h_zret rfl rfl ci_1 (by omega) (h_Kv ?_)
      refine h_zeq (tg := 22) (pc' := 11) rfl rfl rfl ci_1 (fun c34 => absurd c34 (by omega)) (fun c34 => ?_)
      refine h_aload_n (pc' := 12) rfl rfl rfl ?_
      refine h_getR (pc' := 15) rfl rfl rfl rfl rfl ?_
      refine h_iload_n (pc' := 16) rfl rfl rfl ?_
      refine h_call (sp := false) (pc' := 19) (M := [(0, .ref 10), (1, .int z4)]) rfl rfl rfl rfl rfl rfl rfl rfl ?_
      refine h_iload_n (pc' := 1) rfl rfl rfl ?_
      refine h_zlt (tg := 16) (pc' := 4) rfl rfl rfl hz4 (fun c35 => ?_) (fun c35 => ?_)
      · refine h_iconst (pc' := 17) (x := (Int32.ofInt 0)) rfl rfl rfl ?_
        refine h_zret rfl rfl ci_0 (by omega) (h_Kv ?_)
        refine h_zne (tg := 24) (pc' := 22) rfl rfl rfl ci_0 (fun c36 => absurd (Int.le_antisymm (by omega) (by omega)) c36) (fun c36 => ?_)
        refine h_iconst (pc' := 23) (x := (Int32.ofInt (-1))) rfl rfl rfl ?_
        refine h_iret rfl rfl (h_Kv ?_)
        clear hz2 hz4
        refine h_pop (pc' := 741) rfl rfl rfl ?_
        refine h_aload_n (pc' := 742) rfl rfl rfl ?_
        refine h_aload_n (pc' := 743) rfl rfl rfl ?_
        refine h_iload_n (pc' := 744) rfl rfl rfl ?_
        refine h_iconst (pc' := 745) (x := (Int32.ofInt 1)) rfl rfl rfl ?_
        refine h_iadd (pc' := 746) rfl rfl hy3 ci_1 rfl (by omega) (by omega) (fun z37 hz37 => ?_)
        refine h_iald (pc' := 747) (v := s0 0 (b3 + 1)) rfl rfl rfl hz37 (by omega) (by omega) rfl (fun z38 hz38 => ?_)
        have tz38 := h_rgv hz38
        clear hz37
        refine h_aload_n (pc' := 748) rfl rfl rfl ?_
        refine h_iload_n (pc' := 749) rfl rfl rfl ?_
        refine h_iconst (pc' := 750) (x := (Int32.ofInt 2)) rfl rfl rfl ?_
        refine h_iadd (pc' := 751) rfl rfl hy3 ci_2 rfl (by omega) (by omega) (fun z39 hz39 => ?_)
        refine h_iald (pc' := 752) (v := s0 0 (b3 + 2)) rfl rfl rfl hz39 (by omega) (by omega) rfl (fun z40 hz40 => ?_)
        have tz40 := h_rgv hz40
        clear hz39
        refine h_call (sp := false) (pc' := 755) (M := [(0, .ref 98), (1, .int z38), (2, .int z40)]) rfl rfl rfl rfl rfl rfl rfl rfl ?_
        refine h_aload_n (pc' := 1) rfl rfl rfl ?_
        refine h_iload_n (pc' := 2) rfl rfl rfl ?_
        refine h_iload_n (pc' := 3) rfl rfl rfl ?_
        refine h_call (sp := false) (pc' := 6) (M := [(0, .ref 98), (1, .int z38), (2, .int z40)]) rfl rfl rfl rfl rfl rfl rfl rfl ?_
        refine h_aload_n (pc' := 1) rfl rfl rfl ?_
        refine h_iload_n (pc' := 2) rfl rfl rfl ?_
        refine h_call (sp := false) (pc' := 5) (M := [(0, .ref 98), (1, .int z38)]) rfl rfl rfl rfl rfl rfl rfl rfl ?_
        refine h_iload_n (pc' := 1) rfl rfl rfl ?_
        refine h_i2l (pc' := 2) rfl rfl hz38 (fun z41 hz41 => ?_)
        refine h_lconst (pc' := 3) (x := (Int64.ofInt 0)) rfl rfl rfl ?_
        refine h_aload_n (pc' := 4) rfl rfl rfl ?_
        refine h_getI (pc' := 7) (v := s0 98 1) rfl rfl rfl rfl rfl rfl (fun z42 hz42 => ?_)
        have tz42 := tf_98_1 I0
        refine h_iconst (pc' := 8) (x := (Int32.ofInt 1)) rfl rfl rfl ?_
        refine h_isub (pc' := 9) rfl rfl hz42 ci_1 rfl (by omega) (by omega) (fun z43 hz43 => ?_)
        clear hz42
        refine h_i2l (pc' := 10) rfl rfl hz43 (fun z44 hz44 => ?_)
        clear hz43
        refine h_calls (pc' := 13) (M := [(0, .long z41), (2, .long (Int64.ofInt 0)), (4, .long z44)]) rfl rfl rfl rfl rfl rfl ?_
        refine h_lload_n (pc' := 1) rfl rfl rfl ?_
        refine h_lload_n (pc' := 2) rfl rfl rfl ?_
        refine h_lcmp (pc' := 3) rfl rfl hz41 cl_0 (fun z45 hz45 => ?_)
        refine h_zlt (tg := 17) (pc' := 6) rfl rfl rfl rfl (fun c46 => absurd c46 (by omega)) (fun c46 => ?_)
        replace c46 := (h_lcr hz45).2.1 c46
        clear hz45
        refine h_lload_n (pc' := 7) rfl rfl rfl ?_
        refine h_lload (pc' := 9) rfl rfl rfl ?_
        refine h_lcmp (pc' := 10) rfl rfl hz41 hz44 (fun z47 hz47 => ?_)
        refine h_zgt (tg := 17) (pc' := 13) rfl rfl rfl rfl (fun c48 => absurd c48 (by omega)) (fun c48 => ?_)
        replace c48 := (h_lcr hz47).2.2.1 c48
        clear hz47
        refine h_iconst (pc' := 14) (x := (Int32.ofInt 1)) rfl rfl rfl ?_
        refine h_goto (pc' := 18) rfl rfl ?_
        refine h_zret rfl rfl ci_1 (by omega) (h_Kv ?_)
        clear hz41 hz44
        refine h_zret rfl rfl ci_1 (by omega) (h_Kv ?_)
        refine h_zeq (tg := 16) (pc' := 8) rfl rfl rfl ci_1 (fun c49 => absurd c49 (by omega)) (fun c49 => ?_)
        refine h_aload_n (pc' := 9) rfl rfl rfl ?_
        refine h_iload_n (pc' := 10) rfl rfl rfl ?_
        refine h_call (sp := false) (pc' := 13) (M := [(0, .ref 98), (1, .int z40)]) rfl rfl rfl rfl rfl rfl rfl rfl ?_
        refine h_iload_n (pc' := 1) rfl rfl rfl ?_
        refine h_i2l (pc' := 2) rfl rfl hz40 (fun z50 hz50 => ?_)
        refine h_lconst (pc' := 3) (x := (Int64.ofInt 0)) rfl rfl rfl ?_
        refine h_aload_n (pc' := 4) rfl rfl rfl ?_
        refine h_getI (pc' := 7) (v := s0 98 2) rfl rfl rfl rfl rfl rfl (fun z51 hz51 => ?_)
        have tz51 := tf_98_2 I0
        refine h_iconst (pc' := 8) (x := (Int32.ofInt 1)) rfl rfl rfl ?_
        refine h_isub (pc' := 9) rfl rfl hz51 ci_1 rfl (by omega) (by omega) (fun z52 hz52 => ?_)
        clear hz51
        refine h_i2l (pc' := 10) rfl rfl hz52 (fun z53 hz53 => ?_)
        clear hz52
        refine h_calls (pc' := 13) (M := [(0, .long z50), (2, .long (Int64.ofInt 0)), (4, .long z53)]) rfl rfl rfl rfl rfl rfl ?_
        refine h_lload_n (pc' := 1) rfl rfl rfl ?_
        refine h_lload_n (pc' := 2) rfl rfl rfl ?_
        refine h_lcmp (pc' := 3) rfl rfl hz50 cl_0 (fun z54 hz54 => ?_)
        refine h_zlt (tg := 17) (pc' := 6) rfl rfl rfl rfl (fun c55 => ?_) (fun c55 => absurd c55 (by omega))
        replace c55 := (h_lcr hz54).1 c55
        clear hz54
        refine h_iconst (pc' := 18) (x := (Int32.ofInt 0)) rfl rfl rfl ?_
        refine h_zret rfl rfl ci_0 (by omega) (h_Kv ?_)
        clear hz50 hz53
        refine h_zret rfl rfl ci_0 (by omega) (h_Kv ?_)
        refine h_zne (tg := 18) (pc' := 16) rfl rfl rfl ci_0 (fun c56 => absurd (Int.le_antisymm (by omega) (by omega)) c56) (fun c56 => ?_)
        refine h_iconst (pc' := 17) (x := (Int32.ofInt (-1))) rfl rfl rfl ?_
        refine h_iret rfl rfl (h_Kv ?_)
        refine h_iret rfl rfl (h_Kv ?_)
        clear hz38 hz40
        refine h_pop (pc' := 756) rfl rfl rfl ?_
        refine h_goto (pc' := 1441) rfl rfl ?_
        exact kk _ I0 (by first | exact d_tape.le j0 (Int.le_antisymm (by omega) (by omega)) (by omega) (fun j => rfl) (fun j => rfl) | (exfalso; omega)) (Int.le_antisymm (by omega) (by omega)) j2 (g_ti.e j3 rfl) (g_SH.e j4 rfl rfl rfl rfl rfl rfl) (Int.le_antisymm (by omega) (by omega))
      · refine h_iload_n (pc' := 5) rfl rfl rfl ?_
        refine h_aload_n (pc' := 6) rfl rfl rfl ?_
        refine h_getI (pc' := 9) (v := s0 10 9) rfl rfl rfl rfl rfl rfl (fun z57 hz57 => ?_)
        have tz57 := tf_10_9 I0
        refine h_cge (tg := 16) (pc' := 12) rfl rfl rfl hz4 hz57 (fun c58 => ?_) (fun c58 => ?_)
        · clear hz57
          refine h_iconst (pc' := 17) (x := (Int32.ofInt 0)) rfl rfl rfl ?_
          refine h_zret rfl rfl ci_0 (by omega) (h_Kv ?_)
          refine h_zne (tg := 24) (pc' := 22) rfl rfl rfl ci_0 (fun c59 => absurd (Int.le_antisymm (by omega) (by omega)) c59) (fun c59 => ?_)
          refine h_iconst (pc' := 23) (x := (Int32.ofInt (-1))) rfl rfl rfl ?_
          refine h_iret rfl rfl (h_Kv ?_)
          clear hz2 hz4
          refine h_pop (pc' := 741) rfl rfl rfl ?_
          refine h_aload_n (pc' := 742) rfl rfl rfl ?_
          refine h_aload_n (pc' := 743) rfl rfl rfl ?_
          refine h_iload_n (pc' := 744) rfl rfl rfl ?_
          refine h_iconst (pc' := 745) (x := (Int32.ofInt 1)) rfl rfl rfl ?_
          refine h_iadd (pc' := 746) rfl rfl hy3 ci_1 rfl (by omega) (by omega) (fun z60 hz60 => ?_)
          refine h_iald (pc' := 747) (v := s0 0 (b3 + 1)) rfl rfl rfl hz60 (by omega) (by omega) rfl (fun z61 hz61 => ?_)
          have tz61 := h_rgv hz61
          clear hz60
          refine h_aload_n (pc' := 748) rfl rfl rfl ?_
          refine h_iload_n (pc' := 749) rfl rfl rfl ?_
          refine h_iconst (pc' := 750) (x := (Int32.ofInt 2)) rfl rfl rfl ?_
          refine h_iadd (pc' := 751) rfl rfl hy3 ci_2 rfl (by omega) (by omega) (fun z62 hz62 => ?_)
          refine h_iald (pc' := 752) (v := s0 0 (b3 + 2)) rfl rfl rfl hz62 (by omega) (by omega) rfl (fun z63 hz63 => ?_)
          have tz63 := h_rgv hz63
          clear hz62
          refine h_call (sp := false) (pc' := 755) (M := [(0, .ref 98), (1, .int z61), (2, .int z63)]) rfl rfl rfl rfl rfl rfl rfl rfl ?_
          refine h_aload_n (pc' := 1) rfl rfl rfl ?_
          refine h_iload_n (pc' := 2) rfl rfl rfl ?_
          refine h_iload_n (pc' := 3) rfl rfl rfl ?_
          refine h_call (sp := false) (pc' := 6) (M := [(0, .ref 98), (1, .int z61), (2, .int z63)]) rfl rfl rfl rfl rfl rfl rfl rfl ?_
          refine h_aload_n (pc' := 1) rfl rfl rfl ?_
          refine h_iload_n (pc' := 2) rfl rfl rfl ?_
          refine h_call (sp := false) (pc' := 5) (M := [(0, .ref 98), (1, .int z61)]) rfl rfl rfl rfl rfl rfl rfl rfl ?_
          refine h_iload_n (pc' := 1) rfl rfl rfl ?_
          refine h_i2l (pc' := 2) rfl rfl hz61 (fun z64 hz64 => ?_)
          refine h_lconst (pc' := 3) (x := (Int64.ofInt 0)) rfl rfl rfl ?_
          refine h_aload_n (pc' := 4) rfl rfl rfl ?_
          refine h_getI (pc' := 7) (v := s0 98 1) rfl rfl rfl rfl rfl rfl (fun z65 hz65 => ?_)
          have tz65 := tf_98_1 I0
          refine h_iconst (pc' := 8) (x := (Int32.ofInt 1)) rfl rfl rfl ?_
          refine h_isub (pc' := 9) rfl rfl hz65 ci_1 rfl (by omega) (by omega) (fun z66 hz66 => ?_)
          clear hz65
          refine h_i2l (pc' := 10) rfl rfl hz66 (fun z67 hz67 => ?_)
          clear hz66
          refine h_calls (pc' := 13) (M := [(0, .long z64), (2, .long (Int64.ofInt 0)), (4, .long z67)]) rfl rfl rfl rfl rfl rfl ?_
          refine h_lload_n (pc' := 1) rfl rfl rfl ?_
          refine h_lload_n (pc' := 2) rfl rfl rfl ?_
          refine h_lcmp (pc' := 3) rfl rfl hz64 cl_0 (fun z68 hz68 => ?_)
          refine h_zlt (tg := 17) (pc' := 6) rfl rfl rfl rfl (fun c69 => absurd c69 (by omega)) (fun c69 => ?_)
          replace c69 := (h_lcr hz68).2.1 c69
          clear hz68
          refine h_lload_n (pc' := 7) rfl rfl rfl ?_
          refine h_lload (pc' := 9) rfl rfl rfl ?_
          refine h_lcmp (pc' := 10) rfl rfl hz64 hz67 (fun z70 hz70 => ?_)
          refine h_zgt (tg := 17) (pc' := 13) rfl rfl rfl rfl (fun c71 => absurd c71 (by omega)) (fun c71 => ?_)
          replace c71 := (h_lcr hz70).2.2.1 c71
          clear hz70
          refine h_iconst (pc' := 14) (x := (Int32.ofInt 1)) rfl rfl rfl ?_
          refine h_goto (pc' := 18) rfl rfl ?_
          refine h_zret rfl rfl ci_1 (by omega) (h_Kv ?_)
          clear hz64 hz67
          refine h_zret rfl rfl ci_1 (by omega) (h_Kv ?_)
          refine h_zeq (tg := 16) (pc' := 8) rfl rfl rfl ci_1 (fun c72 => absurd c72 (by omega)) (fun c72 => ?_)
          refine h_aload_n (pc' := 9) rfl rfl rfl ?_
          refine h_iload_n (pc' := 10) rfl rfl rfl ?_
          refine h_call (sp := false) (pc' := 13) (M := [(0, .ref 98), (1, .int z63)]) rfl rfl rfl rfl rfl rfl rfl rfl ?_
          refine h_iload_n (pc' := 1) rfl rfl rfl ?_
          refine h_i2l (pc' := 2) rfl rfl hz63 (fun z73 hz73 => ?_)
          refine h_lconst (pc' := 3) (x := (Int64.ofInt 0)) rfl rfl rfl ?_
          refine h_aload_n (pc' := 4) rfl rfl rfl ?_
          refine h_getI (pc' := 7) (v := s0 98 2) rfl rfl rfl rfl rfl rfl (fun z74 hz74 => ?_)
          have tz74 := tf_98_2 I0
          refine h_iconst (pc' := 8) (x := (Int32.ofInt 1)) rfl rfl rfl ?_
          refine h_isub (pc' := 9) rfl rfl hz74 ci_1 rfl (by omega) (by omega) (fun z75 hz75 => ?_)
          clear hz74
          refine h_i2l (pc' := 10) rfl rfl hz75 (fun z76 hz76 => ?_)
          clear hz75
          refine h_calls (pc' := 13) (M := [(0, .long z73), (2, .long (Int64.ofInt 0)), (4, .long z76)]) rfl rfl rfl rfl rfl rfl ?_
          refine h_lload_n (pc' := 1) rfl rfl rfl ?_
          refine h_lload_n (pc' := 2) rfl rfl rfl ?_
          refine h_lcmp (pc' := 3) rfl rfl hz73 cl_0 (fun z77 hz77 => ?_)
          refine h_zlt (tg := 17) (pc' := 6) rfl rfl rfl rfl (fun c78 => absurd c78 (by omega)) (fun c78 => ?_)
          replace c78 := (h_lcr hz77).2.1 c78
          clear hz77
          refine h_lload_n (pc' := 7) rfl rfl rfl ?_
          refine h_lload (pc' := 9) rfl rfl rfl ?_
          refine h_lcmp (pc' := 10) rfl rfl hz73 hz76 (fun z79 hz79 => ?_)
          refine h_zgt (tg := 17) (pc' := 13) rfl rfl rfl rfl (fun c80 => ?_) (fun c80 => absurd c80 (by omega))
          replace c80 := (h_lcr hz79).2.2.2.1 c80
          clear hz79
          refine h_iconst (pc' := 18) (x := (Int32.ofInt 0)) rfl rfl rfl ?_
          refine h_zret rfl rfl ci_0 (by omega) (h_Kv ?_)
          clear hz73 hz76
          refine h_zret rfl rfl ci_0 (by omega) (h_Kv ?_)
          refine h_zne (tg := 18) (pc' := 16) rfl rfl rfl ci_0 (fun c81 => absurd (Int.le_antisymm (by omega) (by omega)) c81) (fun c81 => ?_)
          refine h_iconst (pc' := 17) (x := (Int32.ofInt (-1))) rfl rfl rfl ?_
          refine h_iret rfl rfl (h_Kv ?_)
          refine h_iret rfl rfl (h_Kv ?_)
          clear hz61 hz63
          refine h_pop (pc' := 756) rfl rfl rfl ?_
          refine h_goto (pc' := 1441) rfl rfl ?_
          exact kk _ I0 (by first | exact d_tape.le j0 (Int.le_antisymm (by omega) (by omega)) (by omega) (fun j => rfl) (fun j => rfl) | (exfalso; omega)) (Int.le_antisymm (by omega) (by omega)) j2 (g_ti.e j3 rfl) (g_SH.e j4 rfl rfl rfl rfl rfl rfl) (Int.le_antisymm (by omega) (by omega))
        · clear hz57
          refine h_iconst (pc' := 13) (x := (Int32.ofInt 1)) rfl rfl rfl ?_
          refine h_goto (pc' := 17) rfl rfl ?_
          refine h_zret rfl rfl ci_1 (by omega) (h_Kv ?_)
          refine h_zne (tg := 24) (pc' := 22) rfl rfl rfl ci_1 (fun c82 => ?_) (fun c82 => absurd c82 (by omega))
          refine h_aload_n (pc' := 25) rfl rfl rfl ?_
          refine h_aload_n (pc' := 26) rfl rfl rfl ?_
          refine h_getR (pc' := 29) rfl rfl rfl rfl rfl ?_
          refine h_call (sp := false) (pc' := 32) (M := [(0, .ref 9), (1, .ref 10)]) rfl rfl rfl rfl rfl rfl rfl rfl ?_
          refine h_aload_n (pc' := 1) rfl rfl rfl ?_
          refine h_getR (pc' := 4) rfl rfl rfl rfl rfl ?_
          refine h_aload_n (pc' := 5) rfl rfl rfl ?_
          refine h_call (sp := false) (pc' := 8) (M := [(0, .ref 79), (1, .ref 10)]) rfl rfl rfl rfl rfl rfl rfl rfl ?_
          refine n_measure_10 _ I0  (fun s84 Is84 Gs84 ps84_0 ps84_1 ps84_2 => h_Kn ?_)
          have Zs84 : ∀ i, s84 0 i = s0 0 i := fun i => (Gs84 0 i rfl).trans rfl
          have Fs84 : h_F (fun _ _ => true) s84 s0 := fun _ _ h => by cases h
          have es84_0 : s84 64 1 = s0 64 1 := (Gs84 64 1 rfl).trans rfl
          have es84_1 : s84 98 11 = s0 98 11 := (Gs84 98 11 rfl).trans rfl
          have es84_2 : s84 64 4 = s0 64 4 := (Gs84 64 4 rfl).trans rfl
          have es84_3 : s84 98 16 = s0 98 16 := (Gs84 98 16 rfl).trans rfl
          have es84_4 : s84 90 2 = s0 90 2 := (Gs84 90 2 rfl).trans rfl
          have es84_5 : s84 98 29 = s0 98 29 := (Gs84 98 29 rfl).trans rfl
          have es84_6 : s84 10 8 = s0 10 8 := (Gs84 10 8 rfl).trans rfl
          have es84_7 : s84 98 1 = s0 98 1 := (Gs84 98 1 rfl).trans rfl
          have es84_8 : s84 10 9 = s0 10 9 := (Gs84 10 9 rfl).trans rfl
          have es84_9 : s84 98 2 = s0 98 2 := (Gs84 98 2 rfl).trans rfl
          refine h_aload_n (pc' := 9) rfl rfl rfl ?_
          refine h_getR (pc' := 12) rfl rfl rfl rfl rfl ?_
          refine h_aload_n (pc' := 13) rfl rfl rfl ?_
          refine h_aload_n (pc' := 14) rfl rfl rfl ?_
          refine h_getR (pc' := 17) rfl rfl rfl rfl rfl ?_
          refine h_call (sp := false) (pc' := 20) (M := [(0, .ref 82), (1, .ref 10), (2, .ref 79)]) rfl rfl rfl rfl rfl rfl rfl rfl ?_
          refine n_open_10 _ Is84  (fun s86 Is86 Gs86 ps86_0 => h_Kn ?_)
          have Zs86 : ∀ i, s86 0 i = s0 0 i := fun i => (Gs86 0 i rfl).trans (Zs84 i)
          have Fs86 : h_F (fun _ _ => true) s86 s0 := fun _ _ h => by cases h
          have es86_0 : s86 64 1 = s0 64 1 := (Gs86 64 1 rfl).trans es84_0
          have es86_1 : s86 98 11 = s0 98 11 := (Gs86 98 11 rfl).trans es84_1
          have es86_2 : s86 64 4 = s0 64 4 := (Gs86 64 4 rfl).trans es84_2
          have es86_3 : s86 98 16 = s0 98 16 := (Gs86 98 16 rfl).trans es84_3
          have es86_4 : s86 90 2 = s0 90 2 := (Gs86 90 2 rfl).trans es84_4
          have es86_5 : s86 98 29 = s0 98 29 := (Gs86 98 29 rfl).trans es84_5
          have es86_6 : s86 10 8 = s0 10 8 := (Gs86 10 8 rfl).trans es84_6
          have es86_7 : s86 98 1 = s0 98 1 := (Gs86 98 1 rfl).trans es84_7
          have es86_8 : s86 10 9 = s0 10 9 := (Gs86 10 9 rfl).trans es84_8
          have es86_9 : s86 98 2 = s0 98 2 := (Gs86 98 2 rfl).trans es84_9
          refine h_vret rfl rfl (h_Kn ?_)
          refine h_aload_n (pc' := 33) rfl rfl rfl ?_
          refine h_iload_n (pc' := 34) rfl rfl rfl ?_
          refine h_iload_n (pc' := 35) rfl rfl rfl ?_
          refine h_call (sp := false) (pc' := 38) (M := [(0, .ref 9), (1, .int z2), (2, .int z4)]) rfl rfl rfl rfl rfl rfl rfl rfl ?_
          refine n_good _ Is86 z2 _ hz2 (by omega) z4 _ hz4 (by omega) (g_op_t ps86_0 (ps84_1.trans ((Gs86 10 8 rfl).trans (Gs84 10 8 rfl)).symm) (funext (fun j => Gs86 80 j rfl)).symm (funext (fun j => Gs86 81 j rfl)).symm (funext (fun j => Gs86 19 j rfl)).symm (Gs86 10 9 rfl).symm rfl) (by omega) (by omega) (by have gl := (j2.lw (j := (s0 0 (b3 + 2))) (by omega) (by omega)).1; have g2 : s86 20 ((s0 0 (b3 + 2))) = s0 20 ((s0 0 (b3 + 2))) := congrFun ((funext (fun j => Gs86 20 j rfl)).trans (funext (fun j => Gs84 20 j rfl))) ((s0 0 (b3 + 2))); have g8 : s86 10 8 = s0 10 8 := ((Gs86 10 8 rfl).trans (Gs84 10 8 rfl)); omega) (fun r87 br87 hr87 s88 Is88 Gs88 tr87 ps88_0 => h_Kv ?_)
          have Zs88 : ∀ i, s88 0 i = s0 0 i := fun i => (Gs88 0 i rfl).trans (Zs86 i)
          have Fs88 : h_F (fun _ _ => true) s88 s0 := fun _ _ h => by cases h
          have es88_0 : s88 64 1 = s0 64 1 := (Gs88 64 1 rfl).trans es86_0
          have es88_1 : s88 98 11 = s0 98 11 := (Gs88 98 11 rfl).trans es86_1
          have es88_2 : s88 64 4 = s0 64 4 := (Gs88 64 4 rfl).trans es86_2
          have es88_3 : s88 98 16 = s0 98 16 := (Gs88 98 16 rfl).trans es86_3
          have es88_4 : s88 90 2 = s0 90 2 := (Gs88 90 2 rfl).trans es86_4
          have es88_5 : s88 98 29 = s0 98 29 := (Gs88 98 29 rfl).trans es86_5
          have es88_6 : s88 10 8 = s0 10 8 := (Gs88 10 8 rfl).trans es86_6
          have es88_7 : s88 98 1 = s0 98 1 := (Gs88 98 1 rfl).trans es86_7
          have es88_8 : s88 10 9 = s0 10 9 := (Gs88 10 9 rfl).trans es86_8
          have es88_9 : s88 98 2 = s0 98 2 := (Gs88 98 2 rfl).trans es86_9
          refine h_zeq (tg := 45) (pc' := 41) rfl rfl rfl hr87 (fun c89 => ?_) (fun c89 => ?_)
          · clear hr87
            refine h_iconst (pc' := 46) (x := (Int32.ofInt 0)) rfl rfl rfl ?_
            refine h_iret rfl rfl (h_Kv ?_)
            clear hz2 hz4
            refine h_pop (pc' := 741) rfl rfl rfl ?_
            refine h_aload_n (pc' := 742) rfl rfl rfl ?_
            refine h_aload_n (pc' := 743) rfl rfl rfl ?_
            refine h_iload_n (pc' := 744) rfl rfl rfl ?_
            refine h_iconst (pc' := 745) (x := (Int32.ofInt 1)) rfl rfl rfl ?_
            refine h_iadd (pc' := 746) rfl rfl hy3 ci_1 rfl (by omega) (by omega) (fun z90 hz90 => ?_)
            refine h_iald (pc' := 747) (v := s0 0 (b3 + 1)) rfl rfl rfl hz90 (by omega) (by omega) (Zs88 _) (fun z91 hz91 => ?_)
            have tz91 := h_rgv hz91
            clear hz90
            refine h_aload_n (pc' := 748) rfl rfl rfl ?_
            refine h_iload_n (pc' := 749) rfl rfl rfl ?_
            refine h_iconst (pc' := 750) (x := (Int32.ofInt 2)) rfl rfl rfl ?_
            refine h_iadd (pc' := 751) rfl rfl hy3 ci_2 rfl (by omega) (by omega) (fun z92 hz92 => ?_)
            refine h_iald (pc' := 752) (v := s0 0 (b3 + 2)) rfl rfl rfl hz92 (by omega) (by omega) (Zs88 _) (fun z93 hz93 => ?_)
            have tz93 := h_rgv hz93
            clear hz92
            refine h_call (sp := false) (pc' := 755) (M := [(0, .ref 98), (1, .int z91), (2, .int z93)]) rfl rfl rfl rfl rfl rfl rfl rfl ?_
            refine h_aload_n (pc' := 1) rfl rfl rfl ?_
            refine h_iload_n (pc' := 2) rfl rfl rfl ?_
            refine h_iload_n (pc' := 3) rfl rfl rfl ?_
            refine h_call (sp := false) (pc' := 6) (M := [(0, .ref 98), (1, .int z91), (2, .int z93)]) rfl rfl rfl rfl rfl rfl rfl rfl ?_
            refine h_aload_n (pc' := 1) rfl rfl rfl ?_
            refine h_iload_n (pc' := 2) rfl rfl rfl ?_
            refine h_call (sp := false) (pc' := 5) (M := [(0, .ref 98), (1, .int z91)]) rfl rfl rfl rfl rfl rfl rfl rfl ?_
            refine h_iload_n (pc' := 1) rfl rfl rfl ?_
            refine h_i2l (pc' := 2) rfl rfl hz91 (fun z94 hz94 => ?_)
            refine h_lconst (pc' := 3) (x := (Int64.ofInt 0)) rfl rfl rfl ?_
            refine h_aload_n (pc' := 4) rfl rfl rfl ?_
            refine h_getI (pc' := 7) (v := s0 98 1) rfl rfl rfl rfl rfl es88_7 (fun z95 hz95 => ?_)
            have tz95 := tf_98_1 I0
            refine h_iconst (pc' := 8) (x := (Int32.ofInt 1)) rfl rfl rfl ?_
            refine h_isub (pc' := 9) rfl rfl hz95 ci_1 rfl (by omega) (by omega) (fun z96 hz96 => ?_)
            clear hz95
            refine h_i2l (pc' := 10) rfl rfl hz96 (fun z97 hz97 => ?_)
            clear hz96
            refine h_calls (pc' := 13) (M := [(0, .long z94), (2, .long (Int64.ofInt 0)), (4, .long z97)]) rfl rfl rfl rfl rfl rfl ?_
            refine h_lload_n (pc' := 1) rfl rfl rfl ?_
            refine h_lload_n (pc' := 2) rfl rfl rfl ?_
            refine h_lcmp (pc' := 3) rfl rfl hz94 cl_0 (fun z98 hz98 => ?_)
            refine h_zlt (tg := 17) (pc' := 6) rfl rfl rfl rfl (fun c99 => absurd c99 (by omega)) (fun c99 => ?_)
            replace c99 := (h_lcr hz98).2.1 c99
            clear hz98
            refine h_lload_n (pc' := 7) rfl rfl rfl ?_
            refine h_lload (pc' := 9) rfl rfl rfl ?_
            refine h_lcmp (pc' := 10) rfl rfl hz94 hz97 (fun z100 hz100 => ?_)
            refine h_zgt (tg := 17) (pc' := 13) rfl rfl rfl rfl (fun c101 => absurd c101 (by omega)) (fun c101 => ?_)
            replace c101 := (h_lcr hz100).2.2.1 c101
            clear hz100
            refine h_iconst (pc' := 14) (x := (Int32.ofInt 1)) rfl rfl rfl ?_
            refine h_goto (pc' := 18) rfl rfl ?_
            refine h_zret rfl rfl ci_1 (by omega) (h_Kv ?_)
            clear hz94 hz97
            refine h_zret rfl rfl ci_1 (by omega) (h_Kv ?_)
            refine h_zeq (tg := 16) (pc' := 8) rfl rfl rfl ci_1 (fun c102 => absurd c102 (by omega)) (fun c102 => ?_)
            refine h_aload_n (pc' := 9) rfl rfl rfl ?_
            refine h_iload_n (pc' := 10) rfl rfl rfl ?_
            refine h_call (sp := false) (pc' := 13) (M := [(0, .ref 98), (1, .int z93)]) rfl rfl rfl rfl rfl rfl rfl rfl ?_
            refine h_iload_n (pc' := 1) rfl rfl rfl ?_
            refine h_i2l (pc' := 2) rfl rfl hz93 (fun z103 hz103 => ?_)
            refine h_lconst (pc' := 3) (x := (Int64.ofInt 0)) rfl rfl rfl ?_
            refine h_aload_n (pc' := 4) rfl rfl rfl ?_
            refine h_getI (pc' := 7) (v := s0 98 2) rfl rfl rfl rfl rfl es88_9 (fun z104 hz104 => ?_)
            have tz104 := tf_98_2 I0
            refine h_iconst (pc' := 8) (x := (Int32.ofInt 1)) rfl rfl rfl ?_
            refine h_isub (pc' := 9) rfl rfl hz104 ci_1 rfl (by omega) (by omega) (fun z105 hz105 => ?_)
            clear hz104
            refine h_i2l (pc' := 10) rfl rfl hz105 (fun z106 hz106 => ?_)
            clear hz105
            refine h_calls (pc' := 13) (M := [(0, .long z103), (2, .long (Int64.ofInt 0)), (4, .long z106)]) rfl rfl rfl rfl rfl rfl ?_
            refine h_lload_n (pc' := 1) rfl rfl rfl ?_
            refine h_lload_n (pc' := 2) rfl rfl rfl ?_
            refine h_lcmp (pc' := 3) rfl rfl hz103 cl_0 (fun z107 hz107 => ?_)
            refine h_zlt (tg := 17) (pc' := 6) rfl rfl rfl rfl (fun c108 => absurd c108 (by omega)) (fun c108 => ?_)
            replace c108 := (h_lcr hz107).2.1 c108
            clear hz107
            refine h_lload_n (pc' := 7) rfl rfl rfl ?_
            refine h_lload (pc' := 9) rfl rfl rfl ?_
            refine h_lcmp (pc' := 10) rfl rfl hz103 hz106 (fun z109 hz109 => ?_)
            refine h_zgt (tg := 17) (pc' := 13) rfl rfl rfl rfl (fun c110 => absurd c110 (by omega)) (fun c110 => ?_)
            replace c110 := (h_lcr hz109).2.2.1 c110
            clear hz109
            refine h_iconst (pc' := 14) (x := (Int32.ofInt 1)) rfl rfl rfl ?_
            refine h_goto (pc' := 18) rfl rfl ?_
            refine h_zret rfl rfl ci_1 (by omega) (h_Kv ?_)
            clear hz103 hz106
            refine h_zret rfl rfl ci_1 (by omega) (h_Kv ?_)
            refine h_zne (tg := 18) (pc' := 16) rfl rfl rfl ci_1 (fun c111 => ?_) (fun c111 => absurd c111 (by omega))
            refine h_aload_n (pc' := 19) rfl rfl rfl ?_
            refine h_iconst (pc' := 20) (x := (Int32.ofInt 0)) rfl rfl rfl ?_
            refine h_call (sp := false) (pc' := 23) (M := [(0, .ref 98), (1, .int (Int32.ofInt 0))]) rfl rfl rfl rfl rfl rfl rfl rfl ?_
            refine n_lays _ Is88  (fun s113 Is113 Gs113 ps113_0 => h_Kn ?_)
            have Zs113 : ∀ i, s113 0 i = s0 0 i := fun i => (Gs113 0 i rfl).trans (Zs88 i)
            have Fs113 : h_F (fun _ _ => true) s113 s0 := fun _ _ h => by cases h
            have es113_0 : s113 64 1 = s0 64 1 := (Gs113 64 1 rfl).trans es88_0
            have es113_1 : s113 98 11 = s0 98 11 := (Gs113 98 11 rfl).trans es88_1
            have es113_2 : s113 64 4 = s0 64 4 := (Gs113 64 4 rfl).trans es88_2
            have es113_3 : s113 98 16 = s0 98 16 := (Gs113 98 16 rfl).trans es88_3
            have es113_4 : s113 90 2 = s0 90 2 := (Gs113 90 2 rfl).trans es88_4
            have es113_5 : s113 98 29 = s0 98 29 := (Gs113 98 29 rfl).trans es88_5
            have es113_6 : s113 10 8 = s0 10 8 := (Gs113 10 8 rfl).trans es88_6
            have es113_7 : s113 98 1 = s0 98 1 := (Gs113 98 1 rfl).trans es88_7
            have es113_8 : s113 10 9 = s0 10 9 := (Gs113 10 9 rfl).trans es88_8
            have es113_9 : s113 98 2 = s0 98 2 := (Gs113 98 2 rfl).trans es88_9
            refine h_aload_n (pc' := 24) rfl rfl rfl ?_
            refine h_iconst (pc' := 25) (x := (Int32.ofInt 0)) rfl rfl rfl ?_
            refine h_iload_n (pc' := 26) rfl rfl rfl ?_
            refine h_iload_n (pc' := 27) rfl rfl rfl ?_
            refine h_call (sp := false) (pc' := 30) (M := [(0, .ref 98), (1, .int (Int32.ofInt 0)), (2, .int z91), (3, .int z93)]) rfl rfl rfl rfl rfl rfl rfl rfl ?_
            refine n_goesOn0 _ Is113  z91 _ hz91 (by omega) z93 _ hz93 (by omega) (fun r114 br114 hr114 s115 Is115 Gs115 tr114 ps115_0 => h_Kv ?_)
            have Zs115 : ∀ i, s115 0 i = s0 0 i := fun i => (Gs115 0 i rfl).trans (Zs113 i)
            have Fs115 : h_F (fun _ _ => true) s115 s0 := fun _ _ h => by cases h
            have es115_0 : s115 64 1 = s0 64 1 := (Gs115 64 1 rfl).trans es113_0
            have es115_1 : s115 98 11 = s0 98 11 := (Gs115 98 11 rfl).trans es113_1
            have es115_2 : s115 64 4 = s0 64 4 := (Gs115 64 4 rfl).trans es113_2
            have es115_3 : s115 98 16 = s0 98 16 := (Gs115 98 16 rfl).trans es113_3
            have es115_4 : s115 90 2 = s0 90 2 := (Gs115 90 2 rfl).trans es113_4
            have es115_5 : s115 98 29 = s0 98 29 := (Gs115 98 29 rfl).trans es113_5
            have es115_6 : s115 10 8 = s0 10 8 := (Gs115 10 8 rfl).trans es113_6
            have es115_7 : s115 98 1 = s0 98 1 := (Gs115 98 1 rfl).trans es113_7
            have es115_8 : s115 10 9 = s0 10 9 := (Gs115 10 9 rfl).trans es113_8
            have es115_9 : s115 98 2 = s0 98 2 := (Gs115 98 2 rfl).trans es113_9
            have jj0 : d_tape s115 s115 := (by first | exact d_tape.le j0 (Int.le_antisymm (by omega) (by omega)) (by omega) (fun j => (Gs115 65 j rfl).trans ((Gs113 65 j rfl).trans ((Gs88 65 j rfl).trans ((Gs86 65 j rfl).trans ((Gs84 65 j rfl)))))) (fun j => (Gs115 102 j rfl).trans ((Gs113 102 j rfl).trans ((Gs88 102 j rfl).trans ((Gs86 102 j rfl).trans ((Gs84 102 j rfl)))))) | (exfalso; omega))
            have jj1 : s115 64 4 = s115 98 16 := (Int.le_antisymm (by omega) (by omega))
            have jj2 : c_R true s115 := (c_R.goR (c_R.fr (c_R.fr j2 I0 Gs84 rfl) Is84 Gs86 rfl) Is86 ((c_eq.fr (fl := false) Gs115 rfl).tr ((c_eq.fr (fl := false) Gs113 rfl).tr (c_eq.fr (fl := false) Gs88 rfl))) ((c_eq.fr (fl := true) Gs115 rfl).tr ((c_eq.fr (fl := true) Gs113 rfl).tr (c_eq.fr (fl := true) Gs88 rfl))) ((c_eq.fr (fl := true) Gs115 rfl).tr ((c_eq.fr (fl := true) Gs113 rfl).tr (c_eq.fr (fl := true) Gs88 rfl))) (((c_pg.fr (fl := true) (o := 44) Gs88 rfl).tr (c_pg.fr (fl := true) (o := 44) Gs113 rfl)).tr (c_pg.fr (fl := true) (o := 44) Gs115 rfl)) (((c_pg.fr (fl := true) (o := 88) Gs88 rfl).tr (c_pg.fr (fl := true) (o := 88) Gs113 rfl)).tr (c_pg.fr (fl := true) (o := 88) Gs115 rfl)) ((Gs115 98 1 rfl).trans ((Gs113 98 1 rfl).trans (Gs88 98 1 rfl))) ((Gs115 98 2 rfl).trans ((Gs113 98 2 rfl).trans (Gs88 98 2 rfl))) ((Gs115 62 0 rfl).trans ((Gs113 62 0 rfl).trans (Gs88 62 0 rfl))) ((Gs115 62 1 rfl).trans ((Gs113 62 1 rfl).trans (Gs88 62 1 rfl))) ((Gs115 110 0 rfl).trans ((Gs113 110 0 rfl).trans (Gs88 110 0 rfl))) ((Gs115 110 1 rfl).trans ((Gs113 110 1 rfl).trans (Gs88 110 1 rfl))) (p := s0 0 (b3 + 1)) (g := s0 0 (b3 + 2)) (by omega) (by omega) (by rcases ps88_0 with q | q; exact Or.inl ⟨q.1, q.2.1, ((funext (fun j => Gs115 20 j rfl)).trans (funext (fun j => Gs113 20 j rfl))).trans q.2.2.1, ((funext (fun j => Gs115 21 j rfl)).trans (funext (fun j => Gs113 21 j rfl))).trans q.2.2.2⟩; exact Or.inr ⟨q.1, q.2.1, ((funext (fun j => Gs115 20 j rfl)).trans (funext (fun j => Gs113 20 j rfl))).trans q.2.2.1, ((funext (fun j => Gs115 21 j rfl)).trans (funext (fun j => Gs113 21 j rfl))).trans q.2.2.2⟩) (by have q0 := ps115_0; rw [show s113 99 = s86 99 from (((funext (fun j => Gs113 99 j rfl)).trans (funext (fun j => Gs88 99 j rfl))))] at q0; exact q0) (c_R.may (c_R.fr (c_R.fr j2 I0 Gs84 rfl) Is84 Gs86 rfl) Is86 (g_ti.e j3 ((funext (fun j => Gs86 100 j rfl)).trans (funext (fun j => Gs84 100 j rfl)))) (g_DX_f (g_DX_t ps84_0 ((Gs86 10 8 rfl).trans (Gs84 10 8 rfl)).symm ((funext (fun j => Gs86 12 j rfl)).trans (funext (fun j => Gs84 12 j rfl))).symm ((funext (fun j => Gs86 11 j rfl)).trans (funext (fun j => Gs84 11 j rfl))).symm ((Gs86 13 2 rfl).trans (Gs84 13 2 rfl)).symm ((funext (fun j => Gs86 14 j rfl)).trans (funext (fun j => Gs84 14 j rfl))).symm ((funext (fun j => Gs86 15 j rfl)).trans (funext (fun j => Gs84 15 j rfl))).symm) (funext (fun j => Gs86 80 j rfl))) (g_DM_t ps113_0 (Gs88 98 1 rfl) (Gs88 99 18 rfl) (funext (fun j => Gs88 99 j rfl)) (funext (fun j => Gs88 100 j rfl))) (g_FX_t ps84_2 ((Gs86 10 8 rfl).trans (Gs84 10 8 rfl)).symm ((funext (fun j => Gs86 17 j rfl)).trans (funext (fun j => Gs84 17 j rfl))).symm ((funext (fun j => Gs86 18 j rfl)).trans (funext (fun j => Gs84 18 j rfl))).symm ((Gs86 16 2 rfl).trans (Gs84 16 2 rfl)).symm (funext (fun j => Gs86 81 j rfl))) (p := s0 0 (b3 + 1)) (g := s0 0 (b3 + 2)) (by omega) (by omega) rfl rfl rfl rfl rfl rfl rfl)).1
            have jj3 : g_ti s115 := (g_ti.e j3 ((funext (fun j => Gs115 100 j rfl)).trans ((funext (fun j => Gs113 100 j rfl)).trans ((funext (fun j => Gs88 100 j rfl)).trans ((funext (fun j => Gs86 100 j rfl)).trans (funext (fun j => Gs84 100 j rfl)))))))
            have jj4 : g_SH s115 := (g_SH.e j4 ((funext (fun j => Gs115 94 j rfl)).trans ((funext (fun j => Gs113 94 j rfl)).trans ((funext (fun j => Gs88 94 j rfl)).trans ((funext (fun j => Gs86 94 j rfl)).trans (funext (fun j => Gs84 94 j rfl)))))) ((funext (fun j => Gs115 95 j rfl)).trans ((funext (fun j => Gs113 95 j rfl)).trans ((funext (fun j => Gs88 95 j rfl)).trans ((funext (fun j => Gs86 95 j rfl)).trans (funext (fun j => Gs84 95 j rfl)))))) ((funext (fun j => Gs115 96 j rfl)).trans ((funext (fun j => Gs113 96 j rfl)).trans ((funext (fun j => Gs88 96 j rfl)).trans ((funext (fun j => Gs86 96 j rfl)).trans (funext (fun j => Gs84 96 j rfl)))))) ((funext (fun j => Gs115 111 j rfl)).trans ((funext (fun j => Gs113 111 j rfl)).trans ((funext (fun j => Gs88 111 j rfl)).trans ((funext (fun j => Gs86 111 j rfl)).trans (funext (fun j => Gs84 111 j rfl)))))) ((funext (fun j => Gs115 112 j rfl)).trans ((funext (fun j => Gs113 112 j rfl)).trans ((funext (fun j => Gs88 112 j rfl)).trans ((funext (fun j => Gs86 112 j rfl)).trans (funext (fun j => Gs84 112 j rfl)))))) ((funext (fun j => Gs115 113 j rfl)).trans ((funext (fun j => Gs113 113 j rfl)).trans ((funext (fun j => Gs88 113 j rfl)).trans ((funext (fun j => Gs86 113 j rfl)).trans (funext (fun j => Gs84 113 j rfl)))))))
            have jj5 : s115 90 2 = s115 98 29 := (Int.le_antisymm (by omega) (by omega))
            refine h_zeq (tg := 37) (pc' := 33) rfl rfl rfl hr114 (fun c116 => ?_) (fun c116 => ?_)
            · clear hr114
              refine h_iconst (pc' := 38) (x := (Int32.ofInt 0)) rfl rfl rfl ?_
              refine h_iret rfl rfl (h_Kv ?_)
              refine h_iret rfl rfl (h_Kv ?_)
              clear hz91 hz93
              refine h_pop (pc' := 756) rfl rfl rfl ?_
              refine h_goto (pc' := 1441) rfl rfl ?_
              exact kk _ Is115 jj0 jj1 jj2 jj3 jj4 jj5
            · clear hr114
              refine h_iconst (pc' := 34) (x := (Int32.ofInt 1)) rfl rfl rfl ?_
              refine h_goto (pc' := 38) rfl rfl ?_
              refine h_iret rfl rfl (h_Kv ?_)
              refine h_iret rfl rfl (h_Kv ?_)
              clear hz91 hz93
              refine h_pop (pc' := 756) rfl rfl rfl ?_
              refine h_goto (pc' := 1441) rfl rfl ?_
              exact kk _ Is115 jj0 jj1 jj2 jj3 jj4 jj5
          · clear hr87
            refine h_iconst (pc' := 42) (x := (Int32.ofInt 1)) rfl rfl rfl ?_
            refine h_goto (pc' := 46) rfl rfl ?_
            refine h_iret rfl rfl (h_Kv ?_)
            clear hz2 hz4
            refine h_pop (pc' := 741) rfl rfl rfl ?_
            refine h_aload_n (pc' := 742) rfl rfl rfl ?_
            refine h_aload_n (pc' := 743) rfl rfl rfl ?_
            refine h_iload_n (pc' := 744) rfl rfl rfl ?_
            refine h_iconst (pc' := 745) (x := (Int32.ofInt 1)) rfl rfl rfl ?_
            refine h_iadd (pc' := 746) rfl rfl hy3 ci_1 rfl (by omega) (by omega) (fun z117 hz117 => ?_)
            refine h_iald (pc' := 747) (v := s0 0 (b3 + 1)) rfl rfl rfl hz117 (by omega) (by omega) (Zs88 _) (fun z118 hz118 => ?_)
            have tz118 := h_rgv hz118
            clear hz117
            refine h_aload_n (pc' := 748) rfl rfl rfl ?_
            refine h_iload_n (pc' := 749) rfl rfl rfl ?_
            refine h_iconst (pc' := 750) (x := (Int32.ofInt 2)) rfl rfl rfl ?_
            refine h_iadd (pc' := 751) rfl rfl hy3 ci_2 rfl (by omega) (by omega) (fun z119 hz119 => ?_)
            refine h_iald (pc' := 752) (v := s0 0 (b3 + 2)) rfl rfl rfl hz119 (by omega) (by omega) (Zs88 _) (fun z120 hz120 => ?_)
            have tz120 := h_rgv hz120
            clear hz119
            refine h_call (sp := false) (pc' := 755) (M := [(0, .ref 98), (1, .int z118), (2, .int z120)]) rfl rfl rfl rfl rfl rfl rfl rfl ?_
            refine h_aload_n (pc' := 1) rfl rfl rfl ?_
            refine h_iload_n (pc' := 2) rfl rfl rfl ?_
            refine h_iload_n (pc' := 3) rfl rfl rfl ?_
            refine h_call (sp := false) (pc' := 6) (M := [(0, .ref 98), (1, .int z118), (2, .int z120)]) rfl rfl rfl rfl rfl rfl rfl rfl ?_
            refine h_aload_n (pc' := 1) rfl rfl rfl ?_
            refine h_iload_n (pc' := 2) rfl rfl rfl ?_
            refine h_call (sp := false) (pc' := 5) (M := [(0, .ref 98), (1, .int z118)]) rfl rfl rfl rfl rfl rfl rfl rfl ?_
            refine h_iload_n (pc' := 1) rfl rfl rfl ?_
            refine h_i2l (pc' := 2) rfl rfl hz118 (fun z121 hz121 => ?_)
            refine h_lconst (pc' := 3) (x := (Int64.ofInt 0)) rfl rfl rfl ?_
            refine h_aload_n (pc' := 4) rfl rfl rfl ?_
            refine h_getI (pc' := 7) (v := s0 98 1) rfl rfl rfl rfl rfl es88_7 (fun z122 hz122 => ?_)
            have tz122 := tf_98_1 I0
            refine h_iconst (pc' := 8) (x := (Int32.ofInt 1)) rfl rfl rfl ?_
            refine h_isub (pc' := 9) rfl rfl hz122 ci_1 rfl (by omega) (by omega) (fun z123 hz123 => ?_)
            clear hz122
            refine h_i2l (pc' := 10) rfl rfl hz123 (fun z124 hz124 => ?_)
            clear hz123
            refine h_calls (pc' := 13) (M := [(0, .long z121), (2, .long (Int64.ofInt 0)), (4, .long z124)]) rfl rfl rfl rfl rfl rfl ?_
            refine h_lload_n (pc' := 1) rfl rfl rfl ?_
            refine h_lload_n (pc' := 2) rfl rfl rfl ?_
            refine h_lcmp (pc' := 3) rfl rfl hz121 cl_0 (fun z125 hz125 => ?_)
            refine h_zlt (tg := 17) (pc' := 6) rfl rfl rfl rfl (fun c126 => absurd c126 (by omega)) (fun c126 => ?_)
            replace c126 := (h_lcr hz125).2.1 c126
            clear hz125
            refine h_lload_n (pc' := 7) rfl rfl rfl ?_
            refine h_lload (pc' := 9) rfl rfl rfl ?_
            refine h_lcmp (pc' := 10) rfl rfl hz121 hz124 (fun z127 hz127 => ?_)
            refine h_zgt (tg := 17) (pc' := 13) rfl rfl rfl rfl (fun c128 => absurd c128 (by omega)) (fun c128 => ?_)
            replace c128 := (h_lcr hz127).2.2.1 c128
            clear hz127
            refine h_iconst (pc' := 14) (x := (Int32.ofInt 1)) rfl rfl rfl ?_
            refine h_goto (pc' := 18) rfl rfl ?_
            refine h_zret rfl rfl ci_1 (by omega) (h_Kv ?_)
            clear hz121 hz124
            refine h_zret rfl rfl ci_1 (by omega) (h_Kv ?_)
            refine h_zeq (tg := 16) (pc' := 8) rfl rfl rfl ci_1 (fun c129 => absurd c129 (by omega)) (fun c129 => ?_)
            refine h_aload_n (pc' := 9) rfl rfl rfl ?_
            refine h_iload_n (pc' := 10) rfl rfl rfl ?_
            refine h_call (sp := false) (pc' := 13) (M := [(0, .ref 98), (1, .int z120)]) rfl rfl rfl rfl rfl rfl rfl rfl ?_
            refine h_iload_n (pc' := 1) rfl rfl rfl ?_
            refine h_i2l (pc' := 2) rfl rfl hz120 (fun z130 hz130 => ?_)
            refine h_lconst (pc' := 3) (x := (Int64.ofInt 0)) rfl rfl rfl ?_
            refine h_aload_n (pc' := 4) rfl rfl rfl ?_
            refine h_getI (pc' := 7) (v := s0 98 2) rfl rfl rfl rfl rfl es88_9 (fun z131 hz131 => ?_)
            have tz131 := tf_98_2 I0
            refine h_iconst (pc' := 8) (x := (Int32.ofInt 1)) rfl rfl rfl ?_
            refine h_isub (pc' := 9) rfl rfl hz131 ci_1 rfl (by omega) (by omega) (fun z132 hz132 => ?_)
            clear hz131
            refine h_i2l (pc' := 10) rfl rfl hz132 (fun z133 hz133 => ?_)
            clear hz132
            refine h_calls (pc' := 13) (M := [(0, .long z130), (2, .long (Int64.ofInt 0)), (4, .long z133)]) rfl rfl rfl rfl rfl rfl ?_
            refine h_lload_n (pc' := 1) rfl rfl rfl ?_
            refine h_lload_n (pc' := 2) rfl rfl rfl ?_
            refine h_lcmp (pc' := 3) rfl rfl hz130 cl_0 (fun z134 hz134 => ?_)
            refine h_zlt (tg := 17) (pc' := 6) rfl rfl rfl rfl (fun c135 => absurd c135 (by omega)) (fun c135 => ?_)
            replace c135 := (h_lcr hz134).2.1 c135
            clear hz134
            refine h_lload_n (pc' := 7) rfl rfl rfl ?_
            refine h_lload (pc' := 9) rfl rfl rfl ?_
            refine h_lcmp (pc' := 10) rfl rfl hz130 hz133 (fun z136 hz136 => ?_)
            refine h_zgt (tg := 17) (pc' := 13) rfl rfl rfl rfl (fun c137 => absurd c137 (by omega)) (fun c137 => ?_)
            replace c137 := (h_lcr hz136).2.2.1 c137
            clear hz136
            refine h_iconst (pc' := 14) (x := (Int32.ofInt 1)) rfl rfl rfl ?_
            refine h_goto (pc' := 18) rfl rfl ?_
            refine h_zret rfl rfl ci_1 (by omega) (h_Kv ?_)
            clear hz130 hz133
            refine h_zret rfl rfl ci_1 (by omega) (h_Kv ?_)
            refine h_zne (tg := 18) (pc' := 16) rfl rfl rfl ci_1 (fun c138 => ?_) (fun c138 => absurd c138 (by omega))
            refine h_aload_n (pc' := 19) rfl rfl rfl ?_
            refine h_iconst (pc' := 20) (x := (Int32.ofInt 0)) rfl rfl rfl ?_
            refine h_call (sp := false) (pc' := 23) (M := [(0, .ref 98), (1, .int (Int32.ofInt 0))]) rfl rfl rfl rfl rfl rfl rfl rfl ?_
            refine n_lays _ Is88  (fun s140 Is140 Gs140 ps140_0 => h_Kn ?_)
            have Zs140 : ∀ i, s140 0 i = s0 0 i := fun i => (Gs140 0 i rfl).trans (Zs88 i)
            have Fs140 : h_F (fun _ _ => true) s140 s0 := fun _ _ h => by cases h
            have es140_0 : s140 64 1 = s0 64 1 := (Gs140 64 1 rfl).trans es88_0
            have es140_1 : s140 98 11 = s0 98 11 := (Gs140 98 11 rfl).trans es88_1
            have es140_2 : s140 64 4 = s0 64 4 := (Gs140 64 4 rfl).trans es88_2
            have es140_3 : s140 98 16 = s0 98 16 := (Gs140 98 16 rfl).trans es88_3
            have es140_4 : s140 90 2 = s0 90 2 := (Gs140 90 2 rfl).trans es88_4
            have es140_5 : s140 98 29 = s0 98 29 := (Gs140 98 29 rfl).trans es88_5
            have es140_6 : s140 10 8 = s0 10 8 := (Gs140 10 8 rfl).trans es88_6
            have es140_7 : s140 98 1 = s0 98 1 := (Gs140 98 1 rfl).trans es88_7
            have es140_8 : s140 10 9 = s0 10 9 := (Gs140 10 9 rfl).trans es88_8
            have es140_9 : s140 98 2 = s0 98 2 := (Gs140 98 2 rfl).trans es88_9
            refine h_aload_n (pc' := 24) rfl rfl rfl ?_
            refine h_iconst (pc' := 25) (x := (Int32.ofInt 0)) rfl rfl rfl ?_
            refine h_iload_n (pc' := 26) rfl rfl rfl ?_
            refine h_iload_n (pc' := 27) rfl rfl rfl ?_
            refine h_call (sp := false) (pc' := 30) (M := [(0, .ref 98), (1, .int (Int32.ofInt 0)), (2, .int z118), (3, .int z120)]) rfl rfl rfl rfl rfl rfl rfl rfl ?_
            refine n_goesOn0 _ Is140  z118 _ hz118 (by omega) z120 _ hz120 (by omega) (fun r141 br141 hr141 s142 Is142 Gs142 tr141 ps142_0 => h_Kv ?_)
            have Zs142 : ∀ i, s142 0 i = s0 0 i := fun i => (Gs142 0 i rfl).trans (Zs140 i)
            have Fs142 : h_F (fun _ _ => true) s142 s0 := fun _ _ h => by cases h
            have es142_0 : s142 64 1 = s0 64 1 := (Gs142 64 1 rfl).trans es140_0
            have es142_1 : s142 98 11 = s0 98 11 := (Gs142 98 11 rfl).trans es140_1
            have es142_2 : s142 64 4 = s0 64 4 := (Gs142 64 4 rfl).trans es140_2
            have es142_3 : s142 98 16 = s0 98 16 := (Gs142 98 16 rfl).trans es140_3
            have es142_4 : s142 90 2 = s0 90 2 := (Gs142 90 2 rfl).trans es140_4
            have es142_5 : s142 98 29 = s0 98 29 := (Gs142 98 29 rfl).trans es140_5
            have es142_6 : s142 10 8 = s0 10 8 := (Gs142 10 8 rfl).trans es140_6
            have es142_7 : s142 98 1 = s0 98 1 := (Gs142 98 1 rfl).trans es140_7
            have es142_8 : s142 10 9 = s0 10 9 := (Gs142 10 9 rfl).trans es140_8
            have es142_9 : s142 98 2 = s0 98 2 := (Gs142 98 2 rfl).trans es140_9
            have jj0 : d_tape s142 s142 := (by first | exact d_tape.le j0 (Int.le_antisymm (by omega) (by omega)) (by omega) (fun j => (Gs142 65 j rfl).trans ((Gs140 65 j rfl).trans ((Gs88 65 j rfl).trans ((Gs86 65 j rfl).trans ((Gs84 65 j rfl)))))) (fun j => (Gs142 102 j rfl).trans ((Gs140 102 j rfl).trans ((Gs88 102 j rfl).trans ((Gs86 102 j rfl).trans ((Gs84 102 j rfl)))))) | (exfalso; omega))
            have jj1 : s142 64 4 = s142 98 16 := (Int.le_antisymm (by omega) (by omega))
            have jj2 : c_R true s142 := (c_R.goR (c_R.fr (c_R.fr j2 I0 Gs84 rfl) Is84 Gs86 rfl) Is86 ((c_eq.fr (fl := false) Gs142 rfl).tr ((c_eq.fr (fl := false) Gs140 rfl).tr (c_eq.fr (fl := false) Gs88 rfl))) ((c_eq.fr (fl := true) Gs142 rfl).tr ((c_eq.fr (fl := true) Gs140 rfl).tr (c_eq.fr (fl := true) Gs88 rfl))) ((c_eq.fr (fl := true) Gs142 rfl).tr ((c_eq.fr (fl := true) Gs140 rfl).tr (c_eq.fr (fl := true) Gs88 rfl))) (((c_pg.fr (fl := true) (o := 44) Gs88 rfl).tr (c_pg.fr (fl := true) (o := 44) Gs140 rfl)).tr (c_pg.fr (fl := true) (o := 44) Gs142 rfl)) (((c_pg.fr (fl := true) (o := 88) Gs88 rfl).tr (c_pg.fr (fl := true) (o := 88) Gs140 rfl)).tr (c_pg.fr (fl := true) (o := 88) Gs142 rfl)) ((Gs142 98 1 rfl).trans ((Gs140 98 1 rfl).trans (Gs88 98 1 rfl))) ((Gs142 98 2 rfl).trans ((Gs140 98 2 rfl).trans (Gs88 98 2 rfl))) ((Gs142 62 0 rfl).trans ((Gs140 62 0 rfl).trans (Gs88 62 0 rfl))) ((Gs142 62 1 rfl).trans ((Gs140 62 1 rfl).trans (Gs88 62 1 rfl))) ((Gs142 110 0 rfl).trans ((Gs140 110 0 rfl).trans (Gs88 110 0 rfl))) ((Gs142 110 1 rfl).trans ((Gs140 110 1 rfl).trans (Gs88 110 1 rfl))) (p := s0 0 (b3 + 1)) (g := s0 0 (b3 + 2)) (by omega) (by omega) (by rcases ps88_0 with q | q; exact Or.inl ⟨q.1, q.2.1, ((funext (fun j => Gs142 20 j rfl)).trans (funext (fun j => Gs140 20 j rfl))).trans q.2.2.1, ((funext (fun j => Gs142 21 j rfl)).trans (funext (fun j => Gs140 21 j rfl))).trans q.2.2.2⟩; exact Or.inr ⟨q.1, q.2.1, ((funext (fun j => Gs142 20 j rfl)).trans (funext (fun j => Gs140 20 j rfl))).trans q.2.2.1, ((funext (fun j => Gs142 21 j rfl)).trans (funext (fun j => Gs140 21 j rfl))).trans q.2.2.2⟩) (by have q0 := ps142_0; rw [show s140 99 = s86 99 from (((funext (fun j => Gs140 99 j rfl)).trans (funext (fun j => Gs88 99 j rfl))))] at q0; exact q0) (c_R.may (c_R.fr (c_R.fr j2 I0 Gs84 rfl) Is84 Gs86 rfl) Is86 (g_ti.e j3 ((funext (fun j => Gs86 100 j rfl)).trans (funext (fun j => Gs84 100 j rfl)))) (g_DX_f (g_DX_t ps84_0 ((Gs86 10 8 rfl).trans (Gs84 10 8 rfl)).symm ((funext (fun j => Gs86 12 j rfl)).trans (funext (fun j => Gs84 12 j rfl))).symm ((funext (fun j => Gs86 11 j rfl)).trans (funext (fun j => Gs84 11 j rfl))).symm ((Gs86 13 2 rfl).trans (Gs84 13 2 rfl)).symm ((funext (fun j => Gs86 14 j rfl)).trans (funext (fun j => Gs84 14 j rfl))).symm ((funext (fun j => Gs86 15 j rfl)).trans (funext (fun j => Gs84 15 j rfl))).symm) (funext (fun j => Gs86 80 j rfl))) (g_DM_t ps140_0 (Gs88 98 1 rfl) (Gs88 99 18 rfl) (funext (fun j => Gs88 99 j rfl)) (funext (fun j => Gs88 100 j rfl))) (g_FX_t ps84_2 ((Gs86 10 8 rfl).trans (Gs84 10 8 rfl)).symm ((funext (fun j => Gs86 17 j rfl)).trans (funext (fun j => Gs84 17 j rfl))).symm ((funext (fun j => Gs86 18 j rfl)).trans (funext (fun j => Gs84 18 j rfl))).symm ((Gs86 16 2 rfl).trans (Gs84 16 2 rfl)).symm (funext (fun j => Gs86 81 j rfl))) (p := s0 0 (b3 + 1)) (g := s0 0 (b3 + 2)) (by omega) (by omega) rfl rfl rfl rfl rfl rfl rfl)).1
            have jj3 : g_ti s142 := (g_ti.e j3 ((funext (fun j => Gs142 100 j rfl)).trans ((funext (fun j => Gs140 100 j rfl)).trans ((funext (fun j => Gs88 100 j rfl)).trans ((funext (fun j => Gs86 100 j rfl)).trans (funext (fun j => Gs84 100 j rfl)))))))
            have jj4 : g_SH s142 := (g_SH.e j4 ((funext (fun j => Gs142 94 j rfl)).trans ((funext (fun j => Gs140 94 j rfl)).trans ((funext (fun j => Gs88 94 j rfl)).trans ((funext (fun j => Gs86 94 j rfl)).trans (funext (fun j => Gs84 94 j rfl)))))) ((funext (fun j => Gs142 95 j rfl)).trans ((funext (fun j => Gs140 95 j rfl)).trans ((funext (fun j => Gs88 95 j rfl)).trans ((funext (fun j => Gs86 95 j rfl)).trans (funext (fun j => Gs84 95 j rfl)))))) ((funext (fun j => Gs142 96 j rfl)).trans ((funext (fun j => Gs140 96 j rfl)).trans ((funext (fun j => Gs88 96 j rfl)).trans ((funext (fun j => Gs86 96 j rfl)).trans (funext (fun j => Gs84 96 j rfl)))))) ((funext (fun j => Gs142 111 j rfl)).trans ((funext (fun j => Gs140 111 j rfl)).trans ((funext (fun j => Gs88 111 j rfl)).trans ((funext (fun j => Gs86 111 j rfl)).trans (funext (fun j => Gs84 111 j rfl)))))) ((funext (fun j => Gs142 112 j rfl)).trans ((funext (fun j => Gs140 112 j rfl)).trans ((funext (fun j => Gs88 112 j rfl)).trans ((funext (fun j => Gs86 112 j rfl)).trans (funext (fun j => Gs84 112 j rfl)))))) ((funext (fun j => Gs142 113 j rfl)).trans ((funext (fun j => Gs140 113 j rfl)).trans ((funext (fun j => Gs88 113 j rfl)).trans ((funext (fun j => Gs86 113 j rfl)).trans (funext (fun j => Gs84 113 j rfl)))))))
            have jj5 : s142 90 2 = s142 98 29 := (Int.le_antisymm (by omega) (by omega))
            refine h_zeq (tg := 37) (pc' := 33) rfl rfl rfl hr141 (fun c143 => ?_) (fun c143 => ?_)
            · clear hr141
              refine h_iconst (pc' := 38) (x := (Int32.ofInt 0)) rfl rfl rfl ?_
              refine h_iret rfl rfl (h_Kv ?_)
              refine h_iret rfl rfl (h_Kv ?_)
              clear hz118 hz120
              refine h_pop (pc' := 756) rfl rfl rfl ?_
              refine h_goto (pc' := 1441) rfl rfl ?_
              exact kk _ Is142 jj0 jj1 jj2 jj3 jj4 jj5
            · clear hr141
              refine h_iconst (pc' := 34) (x := (Int32.ofInt 1)) rfl rfl rfl ?_
              refine h_goto (pc' := 38) rfl rfl ?_
              refine h_iret rfl rfl (h_Kv ?_)
              refine h_iret rfl rfl (h_Kv ?_)
              clear hz118 hz120
              refine h_pop (pc' := 756) rfl rfl rfl ?_
              refine h_goto (pc' := 1441) rfl rfl ?_
              exact kk _ Is142 jj0 jj1 jj2 jj3 jj4 jj5
