set_option maxHeartbeats 100000000 in
theorem g_case_726 {ns : Nat} (hns : ns ≤ 320) (s0 : h_S) (I0 : h_I s0) (j0 : d_tape s0 s0) (j1 : s0 64 4 = s0 98 16) (j2 : c_R true s0) (j3 : g_ti s0) (j4 : g_SH s0) (y3 : Int32) (b3 : Int) (hy3 : y3.toInt = b3) (hr : 0 ≤ b3 ∧ b3 + 5 ≤ ns) {Q : Option Value → h_S → Prop} (kk : ∀ τ, h_I τ → (d_tape τ τ) → (τ 64 4 = τ 98 16) → (c_R true τ) → (g_ti τ) → (g_SH τ) → h_T g_P (g_Y ns) 225 1441 [(0, .ref 0), (1, .ref 9), (2, .ref 98), (3, .int y3)] [] τ Q) : h_T g_P (g_Y ns) 225 726 [(0, .ref 0), (1, .ref 9), (2, .ref 98), (3, .int y3)] [] s0 Q := by
  have F0_ : h_F (fun _ _ => true) s0 s0 := h_F.rf
  have j0_ := j0.2
  have i0 := tf_64_1 I0
  have i1 := tf_98_11 I0
  have i2 := tf_64_4 I0
  have i3 := tf_98_16 I0
  have i4 := tf_10_8 I0
  have i5 := tf_98_1 I0
  have i6 := tf_10_9 I0
  have i7 := tf_98_2 I0
  have j2_ := j2.sz
  refine h_aload_n (pc' := 727) rfl rfl rfl ?_
  refine h_aload_n (pc' := 728) rfl rfl rfl ?_
  refine h_iload_n (pc' := 729) rfl rfl rfl ?_
  refine h_iconst (pc' := 730) (x := (Int32.ofInt 1)) rfl rfl rfl ?_
  refine h_iadd (pc' := 731) rfl rfl hy3 ci_1 rfl (by omega) (by omega) (fun z1 hz1 => ?_)
  refine h_iald (pc' := 732) (v := s0 0 (b3 + 1)) rfl rfl rfl hz1 (by omega) (by omega) rfl (fun z2 hz2 => ?_)
  have tz2 := h_rgv hz2
  clear hz1
  refine h_aload_n (pc' := 733) rfl rfl rfl ?_
  refine h_iload_n (pc' := 734) rfl rfl rfl ?_
  refine h_iconst (pc' := 735) (x := (Int32.ofInt 2)) rfl rfl rfl ?_
  refine h_iadd (pc' := 736) rfl rfl hy3 ci_2 rfl (by omega) (by omega) (fun z3 hz3 => ?_)
  refine h_iald (pc' := 737) (v := s0 0 (b3 + 2)) rfl rfl rfl hz3 (by omega) (by omega) rfl (fun z4 hz4 => ?_)
  have tz4 := h_rgv hz4
  clear hz3
  refine h_call (sp := false) (pc' := 740) (M := [(0, .ref 9), (1, .int z2), (2, .int z4)]) rfl rfl rfl rfl rfl rfl rfl rfl ?_
  refine h_aload_n (pc' := 1) rfl rfl rfl ?_
  refine h_getR (pc' := 4) rfl rfl rfl rfl rfl ?_
  refine h_iload_n (pc' := 5) rfl rfl rfl ?_
  refine h_call (sp := false) (pc' := 8) (M := [(0, .ref 10), (1, .int z2)]) rfl rfl rfl rfl rfl rfl rfl rfl ?_
  refine h_iload_n (pc' := 1) rfl rfl rfl ?_
  refine h_zlt (tg := 16) (pc' := 4) rfl rfl rfl hz2 (fun c5 => ?_) (fun c5 => ?_)
  · refine h_iconst (pc' := 17) (x := (Int32.ofInt 0)) rfl rfl rfl ?_
    refine h_zret rfl rfl ci_0 (by omega) (h_Kv ?_)
    refine h_zeq (tg := 22) (pc' := 11) rfl rfl rfl ci_0 (fun c6 => ?_) (fun c6 => absurd (Int.le_antisymm (by omega) (by omega)) c6)
    refine h_iconst (pc' := 23) (x := (Int32.ofInt (-1))) rfl rfl rfl ?_
    refine h_iret rfl rfl (h_Kv ?_)
    clear hz2 hz4
    refine h_aload_n (pc' := 741) rfl rfl rfl ?_
    refine h_aload_n (pc' := 742) rfl rfl rfl ?_
    refine h_iload_n (pc' := 743) rfl rfl rfl ?_
    refine h_iconst (pc' := 744) (x := (Int32.ofInt 1)) rfl rfl rfl ?_
    refine h_iadd (pc' := 745) rfl rfl hy3 ci_1 rfl (by omega) (by omega) (fun z7 hz7 => ?_)
    refine h_iald (pc' := 746) (v := s0 0 (b3 + 1)) rfl rfl rfl hz7 (by omega) (by omega) rfl (fun z8 hz8 => ?_)
    have tz8 := h_rgv hz8
    clear hz7
    refine h_aload_n (pc' := 747) rfl rfl rfl ?_
    refine h_iload_n (pc' := 748) rfl rfl rfl ?_
    refine h_iconst (pc' := 749) (x := (Int32.ofInt 2)) rfl rfl rfl ?_
    refine h_iadd (pc' := 750) rfl rfl hy3 ci_2 rfl (by omega) (by omega) (fun z9 hz9 => ?_)
    refine h_iald (pc' := 751) (v := s0 0 (b3 + 2)) rfl rfl rfl hz9 (by omega) (by omega) rfl (fun z10 hz10 => ?_)
    have tz10 := h_rgv hz10
    clear hz9
    refine h_call (sp := false) (pc' := 754) (M := [(0, .ref 98), (1, .int z8), (2, .int z10)]) rfl rfl rfl rfl rfl rfl rfl rfl ?_
    refine h_aload_n (pc' := 1) rfl rfl rfl ?_
    refine h_iload_n (pc' := 2) rfl rfl rfl ?_
    refine h_iload_n (pc' := 3) rfl rfl rfl ?_
    refine h_call (sp := false) (pc' := 6) (M := [(0, .ref 98), (1, .int z8), (2, .int z10)]) rfl rfl rfl rfl rfl rfl rfl rfl ?_
    refine h_aload_n (pc' := 1) rfl rfl rfl ?_
    refine h_iload_n (pc' := 2) rfl rfl rfl ?_
    refine h_call (sp := false) (pc' := 5) (M := [(0, .ref 98), (1, .int z8)]) rfl rfl rfl rfl rfl rfl rfl rfl ?_
    refine h_iload_n (pc' := 1) rfl rfl rfl ?_
    refine h_i2l (pc' := 2) rfl rfl hz8 (fun z11 hz11 => ?_)
    refine h_lconst (pc' := 3) (x := (Int64.ofInt 0)) rfl rfl rfl ?_
    refine h_aload_n (pc' := 4) rfl rfl rfl ?_
    refine h_getI (pc' := 7) (v := s0 98 1) rfl rfl rfl rfl rfl rfl (fun z12 hz12 => ?_)
    have tz12 := tf_98_1 I0
    refine h_iconst (pc' := 8) (x := (Int32.ofInt 1)) rfl rfl rfl ?_
    refine h_isub (pc' := 9) rfl rfl hz12 ci_1 rfl (by omega) (by omega) (fun z13 hz13 => ?_)
    clear hz12
    refine h_i2l (pc' := 10) rfl rfl hz13 (fun z14 hz14 => ?_)
    clear hz13
    refine h_calls (pc' := 13) (M := [(0, .long z11), (2, .long (Int64.ofInt 0)), (4, .long z14)]) rfl rfl rfl rfl rfl rfl ?_
    refine h_lload_n (pc' := 1) rfl rfl rfl ?_
    refine h_lload_n (pc' := 2) rfl rfl rfl ?_
    refine h_lcmp (pc' := 3) rfl rfl hz11 cl_0 (fun z15 hz15 => ?_)
    refine h_zlt (tg := 17) (pc' := 6) rfl rfl rfl rfl (fun c16 => ?_) (fun c16 => absurd c16 (by omega))
    replace c16 := (h_lcr hz15).1 c16
    clear hz15
    refine h_iconst (pc' := 18) (x := (Int32.ofInt 0)) rfl rfl rfl ?_
    refine h_zret rfl rfl ci_0 (by omega) (h_Kv ?_)
    clear hz11 hz14
    refine h_zret rfl rfl ci_0 (by omega) (h_Kv ?_)
    refine h_zeq (tg := 16) (pc' := 8) rfl rfl rfl ci_0 (fun c17 => ?_) (fun c17 => absurd (Int.le_antisymm (by omega) (by omega)) c17)
    refine h_iconst (pc' := 17) (x := (Int32.ofInt (-1))) rfl rfl rfl ?_
    refine h_iret rfl rfl (h_Kv ?_)
    refine h_iret rfl rfl (h_Kv ?_)
    clear hz10 hz8
    refine h_ceq (tg := 1441) (pc' := 757) rfl rfl rfl ci_m1 ci_m1 (fun c18 => ?_) (fun c18 => absurd (Int.le_antisymm (by omega) (by omega)) c18)
    exact kk _ I0 (by first | exact d_tape.le j0 (Int.le_antisymm (by omega) (by omega)) (by omega) (fun j => rfl) (fun j => rfl) | (exfalso; omega)) (Int.le_antisymm (by omega) (by omega)) j2 (g_ti.e j3 rfl) (g_SH.e j4 rfl rfl rfl rfl rfl rfl)
  · refine h_iload_n (pc' := 5) rfl rfl rfl ?_
    refine h_aload_n (pc' := 6) rfl rfl rfl ?_
    refine h_getI (pc' := 9) (v := s0 10 8) rfl rfl rfl rfl rfl rfl (fun z19 hz19 => ?_)
    have tz19 := tf_10_8 I0
    refine h_cge (tg := 16) (pc' := 12) rfl rfl rfl hz2 hz19 (fun c20 => ?_) (fun c20 => ?_)
    · clear hz19
      refine h_iconst (pc' := 17) (x := (Int32.ofInt 0)) rfl rfl rfl ?_
      refine h_zret rfl rfl ci_0 (by omega) (h_Kv ?_)
      refine h_zeq (tg := 22) (pc' := 11) rfl rfl rfl ci_0 (fun c21 => ?_) (fun c21 => absurd (Int.le_antisymm (by omega) (by omega)) c21)
      refine h_iconst (pc' := 23) (x := (Int32.ofInt (-1))) rfl rfl rfl ?_
      refine h_iret rfl rfl (h_Kv ?_)
      clear hz2 hz4
      refine h_aload_n (pc' := 741) rfl rfl rfl ?_
      refine h_aload_n (pc' := 742) rfl rfl rfl ?_
      refine h_iload_n (pc' := 743) rfl rfl rfl ?_
      refine h_iconst (pc' := 744) (x := (Int32.ofInt 1)) rfl rfl rfl ?_
      refine h_iadd (pc' := 745) rfl rfl hy3 ci_1 rfl (by omega) (by omega) (fun z22 hz22 => ?_)
      refine h_iald (pc' := 746) (v := s0 0 (b3 + 1)) rfl rfl rfl hz22 (by omega) (by omega) rfl (fun z23 hz23 => ?_)
      have tz23 := h_rgv hz23
      clear hz22
      refine h_aload_n (pc' := 747) rfl rfl rfl ?_
      refine h_iload_n (pc' := 748) rfl rfl rfl ?_
      refine h_iconst (pc' := 749) (x := (Int32.ofInt 2)) rfl rfl rfl ?_
      refine h_iadd (pc' := 750) rfl rfl hy3 ci_2 rfl (by omega) (by omega) (fun z24 hz24 => ?_)
      refine h_iald (pc' := 751) (v := s0 0 (b3 + 2)) rfl rfl rfl hz24 (by omega) (by omega) rfl (fun z25 hz25 => ?_)
      have tz25 := h_rgv hz25
      clear hz24
      refine h_call (sp := false) (pc' := 754) (M := [(0, .ref 98), (1, .int z23), (2, .int z25)]) rfl rfl rfl rfl rfl rfl rfl rfl ?_
      refine h_aload_n (pc' := 1) rfl rfl rfl ?_
      refine h_iload_n (pc' := 2) rfl rfl rfl ?_
      refine h_iload_n (pc' := 3) rfl rfl rfl ?_
      refine h_call (sp := false) (pc' := 6) (M := [(0, .ref 98), (1, .int z23), (2, .int z25)]) rfl rfl rfl rfl rfl rfl rfl rfl ?_
      refine h_aload_n (pc' := 1) rfl rfl rfl ?_
      refine h_iload_n (pc' := 2) rfl rfl rfl ?_
      refine h_call (sp := false) (pc' := 5) (M := [(0, .ref 98), (1, .int z23)]) rfl rfl rfl rfl rfl rfl rfl rfl ?_
      refine h_iload_n (pc' := 1) rfl rfl rfl ?_
      refine h_i2l (pc' := 2) rfl rfl hz23 (fun z26 hz26 => ?_)
      refine h_lconst (pc' := 3) (x := (Int64.ofInt 0)) rfl rfl rfl ?_
      refine h_aload_n (pc' := 4) rfl rfl rfl ?_
      refine h_getI (pc' := 7) (v := s0 98 1) rfl rfl rfl rfl rfl rfl (fun z27 hz27 => ?_)
      have tz27 := tf_98_1 I0
      refine h_iconst (pc' := 8) (x := (Int32.ofInt 1)) rfl rfl rfl ?_
      refine h_isub (pc' := 9) rfl rfl hz27 ci_1 rfl (by omega) (by omega) (fun z28 hz28 => ?_)
      clear hz27
      refine h_i2l (pc' := 10) rfl rfl hz28 (fun z29 hz29 => ?_)
      clear hz28
      refine h_calls (pc' := 13) (M := [(0, .long z26), (2, .long (Int64.ofInt 0)), (4, .long z29)]) rfl rfl rfl rfl rfl rfl ?_
      refine h_lload_n (pc' := 1) rfl rfl rfl ?_
      refine h_lload_n (pc' := 2) rfl rfl rfl ?_
      refine h_lcmp (pc' := 3) rfl rfl hz26 cl_0 (fun z30 hz30 => ?_)
      refine h_zlt (tg := 17) (pc' := 6) rfl rfl rfl rfl (fun c31 => absurd c31 (by omega)) (fun c31 => ?_)
      replace c31 := (h_lcr hz30).2.1 c31
      clear hz30
      refine h_lload_n (pc' := 7) rfl rfl rfl ?_
      refine h_lload (pc' := 9) rfl rfl rfl ?_
      refine h_lcmp (pc' := 10) rfl rfl hz26 hz29 (fun z32 hz32 => ?_)
      refine h_zgt (tg := 17) (pc' := 13) rfl rfl rfl rfl (fun c33 => ?_) (fun c33 => absurd c33 (by omega))
      replace c33 := (h_lcr hz32).2.2.2.1 c33
      clear hz32
      refine h_iconst (pc' := 18) (x := (Int32.ofInt 0)) rfl rfl rfl ?_
      refine h_zret rfl rfl ci_0 (by omega) (h_Kv ?_)
      clear hz26 hz29
      refine h_zret rfl rfl ci_0 (by omega) (h_Kv ?_)
      refine h_zeq (tg := 16) (pc' := 8) rfl rfl rfl ci_0 (fun c34 => ?_) (fun c34 => absurd (Int.le_antisymm (by omega) (by omega)) c34)
      refine h_iconst (pc' := 17) (x := (Int32.ofInt (-1))) rfl rfl rfl ?_
      refine h_iret rfl rfl (h_Kv ?_)
      refine h_iret rfl rfl (h_Kv ?_)
      clear hz23 hz25
      refine h_ceq (tg := 1441) (pc' := 757) rfl rfl rfl ci_m1 ci_m1 (fun c35 => ?_) (fun c35 => absurd (Int.le_antisymm (by omega) (by omega)) c35)
      exact kk _ I0 (by first | exact d_tape.le j0 (Int.le_antisymm (by omega) (by omega)) (by omega) (fun j => rfl) (fun j => rfl) | (exfalso; omega)) (Int.le_antisymm (by omega) (by omega)) j2 (g_ti.e j3 rfl) (g_SH.e j4 rfl rfl rfl rfl rfl rfl)
    · clear hz19
      refine h_iconst (pc' := 13) (x := (Int32.ofInt 1)) rfl rfl rfl ?_
      refine h_goto (pc' := 17) rfl rfl ?_
      refine h_zret rfl rfl ci_1 (by omega) (h_Kv ?_)
      refine h_zeq (tg := 22) (pc' := 11) rfl rfl rfl ci_1 (fun c36 => absurd c36 (by omega)) (fun c36 => ?_)
      refine h_aload_n (pc' := 12) rfl rfl rfl ?_
      refine h_getR (pc' := 15) rfl rfl rfl rfl rfl ?_
      refine h_iload_n (pc' := 16) rfl rfl rfl ?_
      refine h_call (sp := false) (pc' := 19) (M := [(0, .ref 10), (1, .int z4)]) rfl rfl rfl rfl rfl rfl rfl rfl ?_
      refine h_iload_n (pc' := 1) rfl rfl rfl ?_
      refine h_zlt (tg := 16) (pc' := 4) rfl rfl rfl hz4 (fun c37 => ?_) (fun c37 => ?_)
      · refine h_iconst (pc' := 17) (x := (Int32.ofInt 0)) rfl rfl rfl ?_
        refine h_zret rfl rfl ci_0 (by omega) (h_Kv ?_)
        refine h_zne (tg := 24) (pc' := 22) rfl rfl rfl ci_0 (fun c38 => absurd (Int.le_antisymm (by omega) (by omega)) c38) (fun c38 => ?_)
        refine h_iconst (pc' := 23) (x := (Int32.ofInt (-1))) rfl rfl rfl ?_
        refine h_iret rfl rfl (h_Kv ?_)
        clear hz2 hz4
        refine h_aload_n (pc' := 741) rfl rfl rfl ?_
        refine h_aload_n (pc' := 742) rfl rfl rfl ?_
        refine h_iload_n (pc' := 743) rfl rfl rfl ?_
        refine h_iconst (pc' := 744) (x := (Int32.ofInt 1)) rfl rfl rfl ?_
        refine h_iadd (pc' := 745) rfl rfl hy3 ci_1 rfl (by omega) (by omega) (fun z39 hz39 => ?_)
        refine h_iald (pc' := 746) (v := s0 0 (b3 + 1)) rfl rfl rfl hz39 (by omega) (by omega) rfl (fun z40 hz40 => ?_)
        have tz40 := h_rgv hz40
        clear hz39
        refine h_aload_n (pc' := 747) rfl rfl rfl ?_
        refine h_iload_n (pc' := 748) rfl rfl rfl ?_
        refine h_iconst (pc' := 749) (x := (Int32.ofInt 2)) rfl rfl rfl ?_
        refine h_iadd (pc' := 750) rfl rfl hy3 ci_2 rfl (by omega) (by omega) (fun z41 hz41 => ?_)
        refine h_iald (pc' := 751) (v := s0 0 (b3 + 2)) rfl rfl rfl hz41 (by omega) (by omega) rfl (fun z42 hz42 => ?_)
        have tz42 := h_rgv hz42
        clear hz41
        refine h_call (sp := false) (pc' := 754) (M := [(0, .ref 98), (1, .int z40), (2, .int z42)]) rfl rfl rfl rfl rfl rfl rfl rfl ?_
        refine h_aload_n (pc' := 1) rfl rfl rfl ?_
        refine h_iload_n (pc' := 2) rfl rfl rfl ?_
        refine h_iload_n (pc' := 3) rfl rfl rfl ?_
        refine h_call (sp := false) (pc' := 6) (M := [(0, .ref 98), (1, .int z40), (2, .int z42)]) rfl rfl rfl rfl rfl rfl rfl rfl ?_
        refine h_aload_n (pc' := 1) rfl rfl rfl ?_
        refine h_iload_n (pc' := 2) rfl rfl rfl ?_
        refine h_call (sp := false) (pc' := 5) (M := [(0, .ref 98), (1, .int z40)]) rfl rfl rfl rfl rfl rfl rfl rfl ?_
        refine h_iload_n (pc' := 1) rfl rfl rfl ?_
        refine h_i2l (pc' := 2) rfl rfl hz40 (fun z43 hz43 => ?_)
        refine h_lconst (pc' := 3) (x := (Int64.ofInt 0)) rfl rfl rfl ?_
        refine h_aload_n (pc' := 4) rfl rfl rfl ?_
        refine h_getI (pc' := 7) (v := s0 98 1) rfl rfl rfl rfl rfl rfl (fun z44 hz44 => ?_)
        have tz44 := tf_98_1 I0
        refine h_iconst (pc' := 8) (x := (Int32.ofInt 1)) rfl rfl rfl ?_
        refine h_isub (pc' := 9) rfl rfl hz44 ci_1 rfl (by omega) (by omega) (fun z45 hz45 => ?_)
        clear hz44
        refine h_i2l (pc' := 10) rfl rfl hz45 (fun z46 hz46 => ?_)
        clear hz45
        refine h_calls (pc' := 13) (M := [(0, .long z43), (2, .long (Int64.ofInt 0)), (4, .long z46)]) rfl rfl rfl rfl rfl rfl ?_
        refine h_lload_n (pc' := 1) rfl rfl rfl ?_
        refine h_lload_n (pc' := 2) rfl rfl rfl ?_
        refine h_lcmp (pc' := 3) rfl rfl hz43 cl_0 (fun z47 hz47 => ?_)
        refine h_zlt (tg := 17) (pc' := 6) rfl rfl rfl rfl (fun c48 => absurd c48 (by omega)) (fun c48 => ?_)
        replace c48 := (h_lcr hz47).2.1 c48
        clear hz47
        refine h_lload_n (pc' := 7) rfl rfl rfl ?_
        refine h_lload (pc' := 9) rfl rfl rfl ?_
        refine h_lcmp (pc' := 10) rfl rfl hz43 hz46 (fun z49 hz49 => ?_)
        refine h_zgt (tg := 17) (pc' := 13) rfl rfl rfl rfl (fun c50 => absurd c50 (by omega)) (fun c50 => ?_)
        replace c50 := (h_lcr hz49).2.2.1 c50
        clear hz49
        refine h_iconst (pc' := 14) (x := (Int32.ofInt 1)) rfl rfl rfl ?_
        refine h_goto (pc' := 18) rfl rfl ?_
        refine h_zret rfl rfl ci_1 (by omega) (h_Kv ?_)
        clear hz43 hz46
        refine h_zret rfl rfl ci_1 (by omega) (h_Kv ?_)
        refine h_zeq (tg := 16) (pc' := 8) rfl rfl rfl ci_1 (fun c51 => absurd c51 (by omega)) (fun c51 => ?_)
        refine h_aload_n (pc' := 9) rfl rfl rfl ?_
        refine h_iload_n (pc' := 10) rfl rfl rfl ?_
        refine h_call (sp := false) (pc' := 13) (M := [(0, .ref 98), (1, .int z42)]) rfl rfl rfl rfl rfl rfl rfl rfl ?_
        refine h_iload_n (pc' := 1) rfl rfl rfl ?_
        refine h_i2l (pc' := 2) rfl rfl hz42 (fun z52 hz52 => ?_)
        refine h_lconst (pc' := 3) (x := (Int64.ofInt 0)) rfl rfl rfl ?_
        refine h_aload_n (pc' := 4) rfl rfl rfl ?_
        refine h_getI (pc' := 7) (v := s0 98 2) rfl rfl rfl rfl rfl rfl (fun z53 hz53 => ?_)
        have tz53 := tf_98_2 I0
        refine h_iconst (pc' := 8) (x := (Int32.ofInt 1)) rfl rfl rfl ?_
        refine h_isub (pc' := 9) rfl rfl hz53 ci_1 rfl (by omega) (by omega) (fun z54 hz54 => ?_)
        clear hz53
        refine h_i2l (pc' := 10) rfl rfl hz54 (fun z55 hz55 => ?_)
        clear hz54
        refine h_calls (pc' := 13) (M := [(0, .long z52), (2, .long (Int64.ofInt 0)), (4, .long z55)]) rfl rfl rfl rfl rfl rfl ?_
        refine h_lload_n (pc' := 1) rfl rfl rfl ?_
        refine h_lload_n (pc' := 2) rfl rfl rfl ?_
        refine h_lcmp (pc' := 3) rfl rfl hz52 cl_0 (fun z56 hz56 => ?_)
        refine h_zlt (tg := 17) (pc' := 6) rfl rfl rfl rfl (fun c57 => ?_) (fun c57 => absurd c57 (by omega))
        replace c57 := (h_lcr hz56).1 c57
        clear hz56
        refine h_iconst (pc' := 18) (x := (Int32.ofInt 0)) rfl rfl rfl ?_
        refine h_zret rfl rfl ci_0 (by omega) (h_Kv ?_)
        clear hz52 hz55
        refine h_zret rfl rfl ci_0 (by omega) (h_Kv ?_)
        refine h_zne (tg := 18) (pc' := 16) rfl rfl rfl ci_0 (fun c58 => absurd (Int.le_antisymm (by omega) (by omega)) c58) (fun c58 => ?_)
        refine h_iconst (pc' := 17) (x := (Int32.ofInt (-1))) rfl rfl rfl ?_
        refine h_iret rfl rfl (h_Kv ?_)
        refine h_iret rfl rfl (h_Kv ?_)
        clear hz40 hz42
        refine h_ceq (tg := 1441) (pc' := 757) rfl rfl rfl ci_m1 ci_m1 (fun c59 => ?_) (fun c59 => absurd (Int.le_antisymm (by omega) (by omega)) c59)
        exact kk _ I0 (by first | exact d_tape.le j0 (Int.le_antisymm (by omega) (by omega)) (by omega) (fun j => rfl) (fun j => rfl) | (exfalso; omega)) (Int.le_antisymm (by omega) (by omega)) j2 (g_ti.e j3 rfl) (g_SH.e j4 rfl rfl rfl rfl rfl rfl)
      · refine h_iload_n (pc' := 5) rfl rfl rfl ?_
        refine h_aload_n (pc' := 6) rfl rfl rfl ?_
        refine h_getI (pc' := 9) (v := s0 10 9) rfl rfl rfl rfl rfl rfl (fun z60 hz60 => ?_)
        have tz60 := tf_10_9 I0
        refine h_cge (tg := 16) (pc' := 12) rfl rfl rfl hz4 hz60 (fun c61 => ?_) (fun c61 => ?_)
        · clear hz60
          refine h_iconst (pc' := 17) (x := (Int32.ofInt 0)) rfl rfl rfl ?_
          refine h_zret rfl rfl ci_0 (by omega) (h_Kv ?_)
          refine h_zne (tg := 24) (pc' := 22) rfl rfl rfl ci_0 (fun c62 => absurd (Int.le_antisymm (by omega) (by omega)) c62) (fun c62 => ?_)
          refine h_iconst (pc' := 23) (x := (Int32.ofInt (-1))) rfl rfl rfl ?_
          refine h_iret rfl rfl (h_Kv ?_)
          clear hz2 hz4
          refine h_aload_n (pc' := 741) rfl rfl rfl ?_
          refine h_aload_n (pc' := 742) rfl rfl rfl ?_
          refine h_iload_n (pc' := 743) rfl rfl rfl ?_
          refine h_iconst (pc' := 744) (x := (Int32.ofInt 1)) rfl rfl rfl ?_
          refine h_iadd (pc' := 745) rfl rfl hy3 ci_1 rfl (by omega) (by omega) (fun z63 hz63 => ?_)
          refine h_iald (pc' := 746) (v := s0 0 (b3 + 1)) rfl rfl rfl hz63 (by omega) (by omega) rfl (fun z64 hz64 => ?_)
          have tz64 := h_rgv hz64
          clear hz63
          refine h_aload_n (pc' := 747) rfl rfl rfl ?_
          refine h_iload_n (pc' := 748) rfl rfl rfl ?_
          refine h_iconst (pc' := 749) (x := (Int32.ofInt 2)) rfl rfl rfl ?_
          refine h_iadd (pc' := 750) rfl rfl hy3 ci_2 rfl (by omega) (by omega) (fun z65 hz65 => ?_)
          refine h_iald (pc' := 751) (v := s0 0 (b3 + 2)) rfl rfl rfl hz65 (by omega) (by omega) rfl (fun z66 hz66 => ?_)
          have tz66 := h_rgv hz66
          clear hz65
          refine h_call (sp := false) (pc' := 754) (M := [(0, .ref 98), (1, .int z64), (2, .int z66)]) rfl rfl rfl rfl rfl rfl rfl rfl ?_
          refine h_aload_n (pc' := 1) rfl rfl rfl ?_
          refine h_iload_n (pc' := 2) rfl rfl rfl ?_
          refine h_iload_n (pc' := 3) rfl rfl rfl ?_
          refine h_call (sp := false) (pc' := 6) (M := [(0, .ref 98), (1, .int z64), (2, .int z66)]) rfl rfl rfl rfl rfl rfl rfl rfl ?_
          refine h_aload_n (pc' := 1) rfl rfl rfl ?_
          refine h_iload_n (pc' := 2) rfl rfl rfl ?_
          refine h_call (sp := false) (pc' := 5) (M := [(0, .ref 98), (1, .int z64)]) rfl rfl rfl rfl rfl rfl rfl rfl ?_
          refine h_iload_n (pc' := 1) rfl rfl rfl ?_
          refine h_i2l (pc' := 2) rfl rfl hz64 (fun z67 hz67 => ?_)
          refine h_lconst (pc' := 3) (x := (Int64.ofInt 0)) rfl rfl rfl ?_
          refine h_aload_n (pc' := 4) rfl rfl rfl ?_
          refine h_getI (pc' := 7) (v := s0 98 1) rfl rfl rfl rfl rfl rfl (fun z68 hz68 => ?_)
          have tz68 := tf_98_1 I0
          refine h_iconst (pc' := 8) (x := (Int32.ofInt 1)) rfl rfl rfl ?_
          refine h_isub (pc' := 9) rfl rfl hz68 ci_1 rfl (by omega) (by omega) (fun z69 hz69 => ?_)
          clear hz68
          refine h_i2l (pc' := 10) rfl rfl hz69 (fun z70 hz70 => ?_)
          clear hz69
          refine h_calls (pc' := 13) (M := [(0, .long z67), (2, .long (Int64.ofInt 0)), (4, .long z70)]) rfl rfl rfl rfl rfl rfl ?_
          refine h_lload_n (pc' := 1) rfl rfl rfl ?_
          refine h_lload_n (pc' := 2) rfl rfl rfl ?_
          refine h_lcmp (pc' := 3) rfl rfl hz67 cl_0 (fun z71 hz71 => ?_)
          refine h_zlt (tg := 17) (pc' := 6) rfl rfl rfl rfl (fun c72 => absurd c72 (by omega)) (fun c72 => ?_)
          replace c72 := (h_lcr hz71).2.1 c72
          clear hz71
          refine h_lload_n (pc' := 7) rfl rfl rfl ?_
          refine h_lload (pc' := 9) rfl rfl rfl ?_
          refine h_lcmp (pc' := 10) rfl rfl hz67 hz70 (fun z73 hz73 => ?_)
          refine h_zgt (tg := 17) (pc' := 13) rfl rfl rfl rfl (fun c74 => absurd c74 (by omega)) (fun c74 => ?_)
          replace c74 := (h_lcr hz73).2.2.1 c74
          clear hz73
          refine h_iconst (pc' := 14) (x := (Int32.ofInt 1)) rfl rfl rfl ?_
          refine h_goto (pc' := 18) rfl rfl ?_
          refine h_zret rfl rfl ci_1 (by omega) (h_Kv ?_)
          clear hz67 hz70
          refine h_zret rfl rfl ci_1 (by omega) (h_Kv ?_)
          refine h_zeq (tg := 16) (pc' := 8) rfl rfl rfl ci_1 (fun c75 => absurd c75 (by omega)) (fun c75 => ?_)
          refine h_aload_n (pc' := 9) rfl rfl rfl ?_
          refine h_iload_n (pc' := 10) rfl rfl rfl ?_
          refine h_call (sp := false) (pc' := 13) (M := [(0, .ref 98), (1, .int z66)]) rfl rfl rfl rfl rfl rfl rfl rfl ?_
          refine h_iload_n (pc' := 1) rfl rfl rfl ?_
          refine h_i2l (pc' := 2) rfl rfl hz66 (fun z76 hz76 => ?_)
          refine h_lconst (pc' := 3) (x := (Int64.ofInt 0)) rfl rfl rfl ?_
          refine h_aload_n (pc' := 4) rfl rfl rfl ?_
          refine h_getI (pc' := 7) (v := s0 98 2) rfl rfl rfl rfl rfl rfl (fun z77 hz77 => ?_)
          have tz77 := tf_98_2 I0
          refine h_iconst (pc' := 8) (x := (Int32.ofInt 1)) rfl rfl rfl ?_
          refine h_isub (pc' := 9) rfl rfl hz77 ci_1 rfl (by omega) (by omega) (fun z78 hz78 => ?_)
          clear hz77
          refine h_i2l (pc' := 10) rfl rfl hz78 (fun z79 hz79 => ?_)
          clear hz78
          refine h_calls (pc' := 13) (M := [(0, .long z76), (2, .long (Int64.ofInt 0)), (4, .long z79)]) rfl rfl rfl rfl rfl rfl ?_
          refine h_lload_n (pc' := 1) rfl rfl rfl ?_
          refine h_lload_n (pc' := 2) rfl rfl rfl ?_
          refine h_lcmp (pc' := 3) rfl rfl hz76 cl_0 (fun z80 hz80 => ?_)
          refine h_zlt (tg := 17) (pc' := 6) rfl rfl rfl rfl (fun c81 => absurd c81 (by omega)) (fun c81 => ?_)
          replace c81 := (h_lcr hz80).2.1 c81
          clear hz80
          refine h_lload_n (pc' := 7) rfl rfl rfl ?_
          refine h_lload (pc' := 9) rfl rfl rfl ?_
          refine h_lcmp (pc' := 10) rfl rfl hz76 hz79 (fun z82 hz82 => ?_)
          refine h_zgt (tg := 17) (pc' := 13) rfl rfl rfl rfl (fun c83 => ?_) (fun c83 => absurd c83 (by omega))
          replace c83 := (h_lcr hz82).2.2.2.1 c83
          clear hz82
          refine h_iconst (pc' := 18) (x := (Int32.ofInt 0)) rfl rfl rfl ?_
          refine h_zret rfl rfl ci_0 (by omega) (h_Kv ?_)
          clear hz76 hz79
          refine h_zret rfl rfl ci_0 (by omega) (h_Kv ?_)
          refine h_zne (tg := 18) (pc' := 16) rfl rfl rfl ci_0 (fun c84 => absurd (Int.le_antisymm (by omega) (by omega)) c84) (fun c84 => ?_)
          refine h_iconst (pc' := 17) (x := (Int32.ofInt (-1))) rfl rfl rfl ?_
          refine h_iret rfl rfl (h_Kv ?_)
          refine h_iret rfl rfl (h_Kv ?_)
          clear hz64 hz66
          refine h_ceq (tg := 1441) (pc' := 757) rfl rfl rfl ci_m1 ci_m1 (fun c85 => ?_) (fun c85 => absurd (Int.le_antisymm (by omega) (by omega)) c85)
          exact kk _ I0 (by first | exact d_tape.le j0 (Int.le_antisymm (by omega) (by omega)) (by omega) (fun j => rfl) (fun j => rfl) | (exfalso; omega)) (Int.le_antisymm (by omega) (by omega)) j2 (g_ti.e j3 rfl) (g_SH.e j4 rfl rfl rfl rfl rfl rfl)
        · clear hz60
          refine h_iconst (pc' := 13) (x := (Int32.ofInt 1)) rfl rfl rfl ?_
          refine h_goto (pc' := 17) rfl rfl ?_
          refine h_zret rfl rfl ci_1 (by omega) (h_Kv ?_)
          refine h_zne (tg := 24) (pc' := 22) rfl rfl rfl ci_1 (fun c86 => ?_) (fun c86 => absurd c86 (by omega))
          refine h_aload_n (pc' := 25) rfl rfl rfl ?_
          refine h_aload_n (pc' := 26) rfl rfl rfl ?_
          refine h_getR (pc' := 29) rfl rfl rfl rfl rfl ?_
          refine h_call (sp := false) (pc' := 32) (M := [(0, .ref 9), (1, .ref 10)]) rfl rfl rfl rfl rfl rfl rfl rfl ?_
          refine h_aload_n (pc' := 1) rfl rfl rfl ?_
          refine h_getR (pc' := 4) rfl rfl rfl rfl rfl ?_
          refine h_aload_n (pc' := 5) rfl rfl rfl ?_
          refine h_call (sp := false) (pc' := 8) (M := [(0, .ref 79), (1, .ref 10)]) rfl rfl rfl rfl rfl rfl rfl rfl ?_
          refine n_measure_10 _ I0  (fun s88 Is88 Gs88 ps88_0 ps88_1 ps88_2 => h_Kn ?_)
          have Zs88 : ∀ i, s88 0 i = s0 0 i := fun i => (Gs88 0 i rfl).trans rfl
          have Fs88 : h_F (fun _ _ => true) s88 s0 := fun _ _ h => by cases h
          have es88_0 : s88 64 1 = s0 64 1 := (Gs88 64 1 rfl).trans rfl
          have es88_1 : s88 98 11 = s0 98 11 := (Gs88 98 11 rfl).trans rfl
          have es88_2 : s88 64 4 = s0 64 4 := (Gs88 64 4 rfl).trans rfl
          have es88_3 : s88 98 16 = s0 98 16 := (Gs88 98 16 rfl).trans rfl
          have es88_4 : s88 10 8 = s0 10 8 := (Gs88 10 8 rfl).trans rfl
          have es88_5 : s88 98 1 = s0 98 1 := (Gs88 98 1 rfl).trans rfl
          have es88_6 : s88 10 9 = s0 10 9 := (Gs88 10 9 rfl).trans rfl
          have es88_7 : s88 98 2 = s0 98 2 := (Gs88 98 2 rfl).trans rfl
          refine h_aload_n (pc' := 9) rfl rfl rfl ?_
          refine h_getR (pc' := 12) rfl rfl rfl rfl rfl ?_
          refine h_aload_n (pc' := 13) rfl rfl rfl ?_
          refine h_aload_n (pc' := 14) rfl rfl rfl ?_
          refine h_getR (pc' := 17) rfl rfl rfl rfl rfl ?_
          refine h_call (sp := false) (pc' := 20) (M := [(0, .ref 82), (1, .ref 10), (2, .ref 79)]) rfl rfl rfl rfl rfl rfl rfl rfl ?_
          refine n_open_10 _ Is88  (fun s90 Is90 Gs90 ps90_0 => h_Kn ?_)
          have Zs90 : ∀ i, s90 0 i = s0 0 i := fun i => (Gs90 0 i rfl).trans (Zs88 i)
          have Fs90 : h_F (fun _ _ => true) s90 s0 := fun _ _ h => by cases h
          have es90_0 : s90 64 1 = s0 64 1 := (Gs90 64 1 rfl).trans es88_0
          have es90_1 : s90 98 11 = s0 98 11 := (Gs90 98 11 rfl).trans es88_1
          have es90_2 : s90 64 4 = s0 64 4 := (Gs90 64 4 rfl).trans es88_2
          have es90_3 : s90 98 16 = s0 98 16 := (Gs90 98 16 rfl).trans es88_3
          have es90_4 : s90 10 8 = s0 10 8 := (Gs90 10 8 rfl).trans es88_4
          have es90_5 : s90 98 1 = s0 98 1 := (Gs90 98 1 rfl).trans es88_5
          have es90_6 : s90 10 9 = s0 10 9 := (Gs90 10 9 rfl).trans es88_6
          have es90_7 : s90 98 2 = s0 98 2 := (Gs90 98 2 rfl).trans es88_7
          refine h_vret rfl rfl (h_Kn ?_)
          refine h_aload_n (pc' := 33) rfl rfl rfl ?_
          refine h_iload_n (pc' := 34) rfl rfl rfl ?_
          refine h_iload_n (pc' := 35) rfl rfl rfl ?_
          refine h_call (sp := false) (pc' := 38) (M := [(0, .ref 9), (1, .int z2), (2, .int z4)]) rfl rfl rfl rfl rfl rfl rfl rfl ?_
          refine n_good _ Is90 z2 _ hz2 (by omega) z4 _ hz4 (by omega) (g_op_t ps90_0 (ps88_1.trans ((Gs90 10 8 rfl).trans (Gs88 10 8 rfl)).symm) (funext (fun j => Gs90 80 j rfl)).symm (funext (fun j => Gs90 81 j rfl)).symm (funext (fun j => Gs90 19 j rfl)).symm (Gs90 10 9 rfl).symm rfl) (by omega) (by omega) (by have gl := (j2.lw (j := (s0 0 (b3 + 2))) (by omega) (by omega)).1; have g2 : s90 20 ((s0 0 (b3 + 2))) = s0 20 ((s0 0 (b3 + 2))) := congrFun ((funext (fun j => Gs90 20 j rfl)).trans (funext (fun j => Gs88 20 j rfl))) ((s0 0 (b3 + 2))); have g8 : s90 10 8 = s0 10 8 := ((Gs90 10 8 rfl).trans (Gs88 10 8 rfl)); omega) (fun r91 br91 hr91 s92 Is92 Gs92 tr91 ps92_0 => h_Kv ?_)
          have Zs92 : ∀ i, s92 0 i = s0 0 i := fun i => (Gs92 0 i rfl).trans (Zs90 i)
          have Fs92 : h_F (fun _ _ => true) s92 s0 := fun _ _ h => by cases h
          have es92_0 : s92 64 1 = s0 64 1 := (Gs92 64 1 rfl).trans es90_0
          have es92_1 : s92 98 11 = s0 98 11 := (Gs92 98 11 rfl).trans es90_1
          have es92_2 : s92 64 4 = s0 64 4 := (Gs92 64 4 rfl).trans es90_2
          have es92_3 : s92 98 16 = s0 98 16 := (Gs92 98 16 rfl).trans es90_3
          have es92_4 : s92 10 8 = s0 10 8 := (Gs92 10 8 rfl).trans es90_4
          have es92_5 : s92 98 1 = s0 98 1 := (Gs92 98 1 rfl).trans es90_5
          have es92_6 : s92 10 9 = s0 10 9 := (Gs92 10 9 rfl).trans es90_6
          have es92_7 : s92 98 2 = s0 98 2 := (Gs92 98 2 rfl).trans es90_7
          refine h_zeq (tg := 45) (pc' := 41) rfl rfl rfl hr91 (fun c93 => ?_) (fun c93 => ?_)
          · clear hr91
            refine h_iconst (pc' := 46) (x := (Int32.ofInt 0)) rfl rfl rfl ?_
            refine h_iret rfl rfl (h_Kv ?_)
            clear hz2 hz4
            refine h_aload_n (pc' := 741) rfl rfl rfl ?_
            refine h_aload_n (pc' := 742) rfl rfl rfl ?_
            refine h_iload_n (pc' := 743) rfl rfl rfl ?_
            refine h_iconst (pc' := 744) (x := (Int32.ofInt 1)) rfl rfl rfl ?_
            refine h_iadd (pc' := 745) rfl rfl hy3 ci_1 rfl (by omega) (by omega) (fun z94 hz94 => ?_)
            refine h_iald (pc' := 746) (v := s0 0 (b3 + 1)) rfl rfl rfl hz94 (by omega) (by omega) (Zs92 _) (fun z95 hz95 => ?_)
            have tz95 := h_rgv hz95
            clear hz94
            refine h_aload_n (pc' := 747) rfl rfl rfl ?_
            refine h_iload_n (pc' := 748) rfl rfl rfl ?_
            refine h_iconst (pc' := 749) (x := (Int32.ofInt 2)) rfl rfl rfl ?_
            refine h_iadd (pc' := 750) rfl rfl hy3 ci_2 rfl (by omega) (by omega) (fun z96 hz96 => ?_)
            refine h_iald (pc' := 751) (v := s0 0 (b3 + 2)) rfl rfl rfl hz96 (by omega) (by omega) (Zs92 _) (fun z97 hz97 => ?_)
            have tz97 := h_rgv hz97
            clear hz96
            refine h_call (sp := false) (pc' := 754) (M := [(0, .ref 98), (1, .int z95), (2, .int z97)]) rfl rfl rfl rfl rfl rfl rfl rfl ?_
            refine h_aload_n (pc' := 1) rfl rfl rfl ?_
            refine h_iload_n (pc' := 2) rfl rfl rfl ?_
            refine h_iload_n (pc' := 3) rfl rfl rfl ?_
            refine h_call (sp := false) (pc' := 6) (M := [(0, .ref 98), (1, .int z95), (2, .int z97)]) rfl rfl rfl rfl rfl rfl rfl rfl ?_
            refine h_aload_n (pc' := 1) rfl rfl rfl ?_
            refine h_iload_n (pc' := 2) rfl rfl rfl ?_
            refine h_call (sp := false) (pc' := 5) (M := [(0, .ref 98), (1, .int z95)]) rfl rfl rfl rfl rfl rfl rfl rfl ?_
            refine h_iload_n (pc' := 1) rfl rfl rfl ?_
            refine h_i2l (pc' := 2) rfl rfl hz95 (fun z98 hz98 => ?_)
            refine h_lconst (pc' := 3) (x := (Int64.ofInt 0)) rfl rfl rfl ?_
            refine h_aload_n (pc' := 4) rfl rfl rfl ?_
            refine h_getI (pc' := 7) (v := s0 98 1) rfl rfl rfl rfl rfl es92_5 (fun z99 hz99 => ?_)
            have tz99 := tf_98_1 I0
            refine h_iconst (pc' := 8) (x := (Int32.ofInt 1)) rfl rfl rfl ?_
            refine h_isub (pc' := 9) rfl rfl hz99 ci_1 rfl (by omega) (by omega) (fun z100 hz100 => ?_)
            clear hz99
            refine h_i2l (pc' := 10) rfl rfl hz100 (fun z101 hz101 => ?_)
            clear hz100
            refine h_calls (pc' := 13) (M := [(0, .long z98), (2, .long (Int64.ofInt 0)), (4, .long z101)]) rfl rfl rfl rfl rfl rfl ?_
            refine h_lload_n (pc' := 1) rfl rfl rfl ?_
            refine h_lload_n (pc' := 2) rfl rfl rfl ?_
            refine h_lcmp (pc' := 3) rfl rfl hz98 cl_0 (fun z102 hz102 => ?_)
            refine h_zlt (tg := 17) (pc' := 6) rfl rfl rfl rfl (fun c103 => absurd c103 (by omega)) (fun c103 => ?_)
            replace c103 := (h_lcr hz102).2.1 c103
            clear hz102
            refine h_lload_n (pc' := 7) rfl rfl rfl ?_
            refine h_lload (pc' := 9) rfl rfl rfl ?_
            refine h_lcmp (pc' := 10) rfl rfl hz98 hz101 (fun z104 hz104 => ?_)
            refine h_zgt (tg := 17) (pc' := 13) rfl rfl rfl rfl (fun c105 => absurd c105 (by omega)) (fun c105 => ?_)
            replace c105 := (h_lcr hz104).2.2.1 c105
            clear hz104
            refine h_iconst (pc' := 14) (x := (Int32.ofInt 1)) rfl rfl rfl ?_
            refine h_goto (pc' := 18) rfl rfl ?_
            refine h_zret rfl rfl ci_1 (by omega) (h_Kv ?_)
            clear hz101 hz98
            refine h_zret rfl rfl ci_1 (by omega) (h_Kv ?_)
            refine h_zeq (tg := 16) (pc' := 8) rfl rfl rfl ci_1 (fun c106 => absurd c106 (by omega)) (fun c106 => ?_)
            refine h_aload_n (pc' := 9) rfl rfl rfl ?_
            refine h_iload_n (pc' := 10) rfl rfl rfl ?_
            refine h_call (sp := false) (pc' := 13) (M := [(0, .ref 98), (1, .int z97)]) rfl rfl rfl rfl rfl rfl rfl rfl ?_
            refine h_iload_n (pc' := 1) rfl rfl rfl ?_
            refine h_i2l (pc' := 2) rfl rfl hz97 (fun z107 hz107 => ?_)
            refine h_lconst (pc' := 3) (x := (Int64.ofInt 0)) rfl rfl rfl ?_
            refine h_aload_n (pc' := 4) rfl rfl rfl ?_
            refine h_getI (pc' := 7) (v := s0 98 2) rfl rfl rfl rfl rfl es92_7 (fun z108 hz108 => ?_)
            have tz108 := tf_98_2 I0
            refine h_iconst (pc' := 8) (x := (Int32.ofInt 1)) rfl rfl rfl ?_
            refine h_isub (pc' := 9) rfl rfl hz108 ci_1 rfl (by omega) (by omega) (fun z109 hz109 => ?_)
            clear hz108
            refine h_i2l (pc' := 10) rfl rfl hz109 (fun z110 hz110 => ?_)
            clear hz109
            refine h_calls (pc' := 13) (M := [(0, .long z107), (2, .long (Int64.ofInt 0)), (4, .long z110)]) rfl rfl rfl rfl rfl rfl ?_
            refine h_lload_n (pc' := 1) rfl rfl rfl ?_
            refine h_lload_n (pc' := 2) rfl rfl rfl ?_
            refine h_lcmp (pc' := 3) rfl rfl hz107 cl_0 (fun z111 hz111 => ?_)
            refine h_zlt (tg := 17) (pc' := 6) rfl rfl rfl rfl (fun c112 => absurd c112 (by omega)) (fun c112 => ?_)
            replace c112 := (h_lcr hz111).2.1 c112
            clear hz111
            refine h_lload_n (pc' := 7) rfl rfl rfl ?_
            refine h_lload (pc' := 9) rfl rfl rfl ?_
            refine h_lcmp (pc' := 10) rfl rfl hz107 hz110 (fun z113 hz113 => ?_)
            refine h_zgt (tg := 17) (pc' := 13) rfl rfl rfl rfl (fun c114 => absurd c114 (by omega)) (fun c114 => ?_)
            replace c114 := (h_lcr hz113).2.2.1 c114
            clear hz113
            refine h_iconst (pc' := 14) (x := (Int32.ofInt 1)) rfl rfl rfl ?_
            refine h_goto (pc' := 18) rfl rfl ?_
            refine h_zret rfl rfl ci_1 (by omega) (h_Kv ?_)
            clear hz107 hz110
            refine h_zret rfl rfl ci_1 (by omega) (h_Kv ?_)
            refine h_zne (tg := 18) (pc' := 16) rfl rfl rfl ci_1 (fun c115 => ?_) (fun c115 => absurd c115 (by omega))
            refine h_aload_n (pc' := 19) rfl rfl rfl ?_
            refine h_iconst (pc' := 20) (x := (Int32.ofInt 0)) rfl rfl rfl ?_
            refine h_call (sp := false) (pc' := 23) (M := [(0, .ref 98), (1, .int (Int32.ofInt 0))]) rfl rfl rfl rfl rfl rfl rfl rfl ?_
            refine n_lays _ Is92  (fun s117 Is117 Gs117 ps117_0 => h_Kn ?_)
            have Zs117 : ∀ i, s117 0 i = s0 0 i := fun i => (Gs117 0 i rfl).trans (Zs92 i)
            have Fs117 : h_F (fun _ _ => true) s117 s0 := fun _ _ h => by cases h
            have es117_0 : s117 64 1 = s0 64 1 := (Gs117 64 1 rfl).trans es92_0
            have es117_1 : s117 98 11 = s0 98 11 := (Gs117 98 11 rfl).trans es92_1
            have es117_2 : s117 64 4 = s0 64 4 := (Gs117 64 4 rfl).trans es92_2
            have es117_3 : s117 98 16 = s0 98 16 := (Gs117 98 16 rfl).trans es92_3
            have es117_4 : s117 10 8 = s0 10 8 := (Gs117 10 8 rfl).trans es92_4
            have es117_5 : s117 98 1 = s0 98 1 := (Gs117 98 1 rfl).trans es92_5
            have es117_6 : s117 10 9 = s0 10 9 := (Gs117 10 9 rfl).trans es92_6
            have es117_7 : s117 98 2 = s0 98 2 := (Gs117 98 2 rfl).trans es92_7
            refine h_aload_n (pc' := 24) rfl rfl rfl ?_
            refine h_iconst (pc' := 25) (x := (Int32.ofInt 0)) rfl rfl rfl ?_
            refine h_iload_n (pc' := 26) rfl rfl rfl ?_
            refine h_iload_n (pc' := 27) rfl rfl rfl ?_
            refine h_call (sp := false) (pc' := 30) (M := [(0, .ref 98), (1, .int (Int32.ofInt 0)), (2, .int z95), (3, .int z97)]) rfl rfl rfl rfl rfl rfl rfl rfl ?_
            refine n_goesOn0 _ Is117  z95 _ hz95 (by omega) z97 _ hz97 (by omega) (fun r118 br118 hr118 s119 Is119 Gs119 tr118 ps119_0 => h_Kv ?_)
            have Zs119 : ∀ i, s119 0 i = s0 0 i := fun i => (Gs119 0 i rfl).trans (Zs117 i)
            have Fs119 : h_F (fun _ _ => true) s119 s0 := fun _ _ h => by cases h
            have es119_0 : s119 64 1 = s0 64 1 := (Gs119 64 1 rfl).trans es117_0
            have es119_1 : s119 98 11 = s0 98 11 := (Gs119 98 11 rfl).trans es117_1
            have es119_2 : s119 64 4 = s0 64 4 := (Gs119 64 4 rfl).trans es117_2
            have es119_3 : s119 98 16 = s0 98 16 := (Gs119 98 16 rfl).trans es117_3
            have es119_4 : s119 10 8 = s0 10 8 := (Gs119 10 8 rfl).trans es117_4
            have es119_5 : s119 98 1 = s0 98 1 := (Gs119 98 1 rfl).trans es117_5
            have es119_6 : s119 10 9 = s0 10 9 := (Gs119 10 9 rfl).trans es117_6
            have es119_7 : s119 98 2 = s0 98 2 := (Gs119 98 2 rfl).trans es117_7
            refine h_zeq (tg := 37) (pc' := 33) rfl rfl rfl hr118 (fun c120 => ?_) (fun c120 => ?_)
            · clear hr118
              refine h_iconst (pc' := 38) (x := (Int32.ofInt 0)) rfl rfl rfl ?_
              refine h_iret rfl rfl (h_Kv ?_)
              refine h_iret rfl rfl (h_Kv ?_)
              clear hz95 hz97
              refine h_ceq (tg := 1441) (pc' := 757) rfl rfl rfl ci_0 ci_0 (fun c121 => ?_) (fun c121 => absurd (Int.le_antisymm (by omega) (by omega)) c121)
              exact kk _ Is119 (by first | exact d_tape.le j0 (Int.le_antisymm (by omega) (by omega)) (by omega) (fun j => (Gs119 65 j rfl).trans ((Gs117 65 j rfl).trans ((Gs92 65 j rfl).trans ((Gs90 65 j rfl).trans ((Gs88 65 j rfl)))))) (fun j => (Gs119 102 j rfl).trans ((Gs117 102 j rfl).trans ((Gs92 102 j rfl).trans ((Gs90 102 j rfl).trans ((Gs88 102 j rfl)))))) | (exfalso; omega)) (Int.le_antisymm (by omega) (by omega)) (c_R.goR (c_R.fr (c_R.fr j2 I0 Gs88 rfl) Is88 Gs90 rfl) Is90 ((c_eq.fr (fl := false) Gs119 rfl).tr ((c_eq.fr (fl := false) Gs117 rfl).tr (c_eq.fr (fl := false) Gs92 rfl))) ((c_eq.fr (fl := true) Gs119 rfl).tr ((c_eq.fr (fl := true) Gs117 rfl).tr (c_eq.fr (fl := true) Gs92 rfl))) ((c_eq.fr (fl := true) Gs119 rfl).tr ((c_eq.fr (fl := true) Gs117 rfl).tr (c_eq.fr (fl := true) Gs92 rfl))) (((c_pg.fr (fl := true) (o := 44) Gs92 rfl).tr (c_pg.fr (fl := true) (o := 44) Gs117 rfl)).tr (c_pg.fr (fl := true) (o := 44) Gs119 rfl)) (((c_pg.fr (fl := true) (o := 88) Gs92 rfl).tr (c_pg.fr (fl := true) (o := 88) Gs117 rfl)).tr (c_pg.fr (fl := true) (o := 88) Gs119 rfl)) ((Gs119 98 1 rfl).trans ((Gs117 98 1 rfl).trans (Gs92 98 1 rfl))) ((Gs119 98 2 rfl).trans ((Gs117 98 2 rfl).trans (Gs92 98 2 rfl))) ((Gs119 62 0 rfl).trans ((Gs117 62 0 rfl).trans (Gs92 62 0 rfl))) ((Gs119 62 1 rfl).trans ((Gs117 62 1 rfl).trans (Gs92 62 1 rfl))) ((Gs119 110 0 rfl).trans ((Gs117 110 0 rfl).trans (Gs92 110 0 rfl))) ((Gs119 110 1 rfl).trans ((Gs117 110 1 rfl).trans (Gs92 110 1 rfl))) (p := s0 0 (b3 + 1)) (g := s0 0 (b3 + 2)) (by omega) (by omega) (by rcases ps92_0 with q | q; exact Or.inl ⟨q.1, q.2.1, ((funext (fun j => Gs119 20 j rfl)).trans (funext (fun j => Gs117 20 j rfl))).trans q.2.2.1, ((funext (fun j => Gs119 21 j rfl)).trans (funext (fun j => Gs117 21 j rfl))).trans q.2.2.2⟩; exact Or.inr ⟨q.1, q.2.1, ((funext (fun j => Gs119 20 j rfl)).trans (funext (fun j => Gs117 20 j rfl))).trans q.2.2.1, ((funext (fun j => Gs119 21 j rfl)).trans (funext (fun j => Gs117 21 j rfl))).trans q.2.2.2⟩) (by have q0 := ps119_0; rw [show s117 99 = s90 99 from (((funext (fun j => Gs117 99 j rfl)).trans (funext (fun j => Gs92 99 j rfl))))] at q0; exact q0) (c_R.may (c_R.fr (c_R.fr j2 I0 Gs88 rfl) Is88 Gs90 rfl) Is90 (g_ti.e j3 ((funext (fun j => Gs90 100 j rfl)).trans (funext (fun j => Gs88 100 j rfl)))) (g_DX_f (g_DX_t ps88_0 ((Gs90 10 8 rfl).trans (Gs88 10 8 rfl)).symm ((funext (fun j => Gs90 12 j rfl)).trans (funext (fun j => Gs88 12 j rfl))).symm ((funext (fun j => Gs90 11 j rfl)).trans (funext (fun j => Gs88 11 j rfl))).symm ((Gs90 13 2 rfl).trans (Gs88 13 2 rfl)).symm ((funext (fun j => Gs90 14 j rfl)).trans (funext (fun j => Gs88 14 j rfl))).symm ((funext (fun j => Gs90 15 j rfl)).trans (funext (fun j => Gs88 15 j rfl))).symm) (funext (fun j => Gs90 80 j rfl))) (g_DM_t ps117_0 (Gs92 98 1 rfl) (Gs92 99 18 rfl) (funext (fun j => Gs92 99 j rfl)) (funext (fun j => Gs92 100 j rfl))) (g_FX_t ps88_2 ((Gs90 10 8 rfl).trans (Gs88 10 8 rfl)).symm ((funext (fun j => Gs90 17 j rfl)).trans (funext (fun j => Gs88 17 j rfl))).symm ((funext (fun j => Gs90 18 j rfl)).trans (funext (fun j => Gs88 18 j rfl))).symm ((Gs90 16 2 rfl).trans (Gs88 16 2 rfl)).symm (funext (fun j => Gs90 81 j rfl))) (p := s0 0 (b3 + 1)) (g := s0 0 (b3 + 2)) (by omega) (by omega) rfl rfl rfl rfl rfl rfl rfl)).1 (g_ti.e j3 ((funext (fun j => Gs119 100 j rfl)).trans ((funext (fun j => Gs117 100 j rfl)).trans ((funext (fun j => Gs92 100 j rfl)).trans ((funext (fun j => Gs90 100 j rfl)).trans (funext (fun j => Gs88 100 j rfl))))))) (g_SH.e j4 ((funext (fun j => Gs119 94 j rfl)).trans ((funext (fun j => Gs117 94 j rfl)).trans ((funext (fun j => Gs92 94 j rfl)).trans ((funext (fun j => Gs90 94 j rfl)).trans (funext (fun j => Gs88 94 j rfl)))))) ((funext (fun j => Gs119 95 j rfl)).trans ((funext (fun j => Gs117 95 j rfl)).trans ((funext (fun j => Gs92 95 j rfl)).trans ((funext (fun j => Gs90 95 j rfl)).trans (funext (fun j => Gs88 95 j rfl)))))) ((funext (fun j => Gs119 96 j rfl)).trans ((funext (fun j => Gs117 96 j rfl)).trans ((funext (fun j => Gs92 96 j rfl)).trans ((funext (fun j => Gs90 96 j rfl)).trans (funext (fun j => Gs88 96 j rfl)))))) ((funext (fun j => Gs119 111 j rfl)).trans ((funext (fun j => Gs117 111 j rfl)).trans ((funext (fun j => Gs92 111 j rfl)).trans ((funext (fun j => Gs90 111 j rfl)).trans (funext (fun j => Gs88 111 j rfl)))))) ((funext (fun j => Gs119 112 j rfl)).trans ((funext (fun j => Gs117 112 j rfl)).trans ((funext (fun j => Gs92 112 j rfl)).trans ((funext (fun j => Gs90 112 j rfl)).trans (funext (fun j => Gs88 112 j rfl)))))) ((funext (fun j => Gs119 113 j rfl)).trans ((funext (fun j => Gs117 113 j rfl)).trans ((funext (fun j => Gs92 113 j rfl)).trans ((funext (fun j => Gs90 113 j rfl)).trans (funext (fun j => Gs88 113 j rfl)))))))
            · clear hr118
              refine h_iconst (pc' := 34) (x := (Int32.ofInt 1)) rfl rfl rfl ?_
              refine h_goto (pc' := 38) rfl rfl ?_
              refine h_iret rfl rfl (h_Kv ?_)
              refine h_iret rfl rfl (h_Kv ?_)
              clear hz95 hz97
              refine h_ceq (tg := 1441) (pc' := 757) rfl rfl rfl ci_0 ci_1 (fun c122 => absurd c122 (by omega)) (fun c122 => ?_)
              refine h_iconst (pc' := 758) (x := (Int32.ofInt 0)) rfl rfl rfl ?_
              have ga := (c_R.goR (c_R.fr (c_R.fr j2 I0 Gs88 rfl) Is88 Gs90 rfl) Is90 ((c_eq.fr (fl := false) Gs119 rfl).tr ((c_eq.fr (fl := false) Gs117 rfl).tr (c_eq.fr (fl := false) Gs92 rfl))) ((c_eq.fr (fl := true) Gs119 rfl).tr ((c_eq.fr (fl := true) Gs117 rfl).tr (c_eq.fr (fl := true) Gs92 rfl))) ((c_eq.fr (fl := true) Gs119 rfl).tr ((c_eq.fr (fl := true) Gs117 rfl).tr (c_eq.fr (fl := true) Gs92 rfl))) (((c_pg.fr (fl := true) (o := 44) Gs92 rfl).tr (c_pg.fr (fl := true) (o := 44) Gs117 rfl)).tr (c_pg.fr (fl := true) (o := 44) Gs119 rfl)) (((c_pg.fr (fl := true) (o := 88) Gs92 rfl).tr (c_pg.fr (fl := true) (o := 88) Gs117 rfl)).tr (c_pg.fr (fl := true) (o := 88) Gs119 rfl)) ((Gs119 98 1 rfl).trans ((Gs117 98 1 rfl).trans (Gs92 98 1 rfl))) ((Gs119 98 2 rfl).trans ((Gs117 98 2 rfl).trans (Gs92 98 2 rfl))) ((Gs119 62 0 rfl).trans ((Gs117 62 0 rfl).trans (Gs92 62 0 rfl))) ((Gs119 62 1 rfl).trans ((Gs117 62 1 rfl).trans (Gs92 62 1 rfl))) ((Gs119 110 0 rfl).trans ((Gs117 110 0 rfl).trans (Gs92 110 0 rfl))) ((Gs119 110 1 rfl).trans ((Gs117 110 1 rfl).trans (Gs92 110 1 rfl))) (p := s0 0 (b3 + 1)) (g := s0 0 (b3 + 2)) (by omega) (by omega) (by rcases ps92_0 with q | q; exact Or.inl ⟨q.1, q.2.1, ((funext (fun j => Gs119 20 j rfl)).trans (funext (fun j => Gs117 20 j rfl))).trans q.2.2.1, ((funext (fun j => Gs119 21 j rfl)).trans (funext (fun j => Gs117 21 j rfl))).trans q.2.2.2⟩; exact Or.inr ⟨q.1, q.2.1, ((funext (fun j => Gs119 20 j rfl)).trans (funext (fun j => Gs117 20 j rfl))).trans q.2.2.1, ((funext (fun j => Gs119 21 j rfl)).trans (funext (fun j => Gs117 21 j rfl))).trans q.2.2.2⟩) (by have q0 := ps119_0; rw [show s117 99 = s90 99 from (((funext (fun j => Gs117 99 j rfl)).trans (funext (fun j => Gs92 99 j rfl))))] at q0; exact q0) (c_R.may (c_R.fr (c_R.fr j2 I0 Gs88 rfl) Is88 Gs90 rfl) Is90 (g_ti.e j3 ((funext (fun j => Gs90 100 j rfl)).trans (funext (fun j => Gs88 100 j rfl)))) (g_DX_f (g_DX_t ps88_0 ((Gs90 10 8 rfl).trans (Gs88 10 8 rfl)).symm ((funext (fun j => Gs90 12 j rfl)).trans (funext (fun j => Gs88 12 j rfl))).symm ((funext (fun j => Gs90 11 j rfl)).trans (funext (fun j => Gs88 11 j rfl))).symm ((Gs90 13 2 rfl).trans (Gs88 13 2 rfl)).symm ((funext (fun j => Gs90 14 j rfl)).trans (funext (fun j => Gs88 14 j rfl))).symm ((funext (fun j => Gs90 15 j rfl)).trans (funext (fun j => Gs88 15 j rfl))).symm) (funext (fun j => Gs90 80 j rfl))) (g_DM_t ps117_0 (Gs92 98 1 rfl) (Gs92 99 18 rfl) (funext (fun j => Gs92 99 j rfl)) (funext (fun j => Gs92 100 j rfl))) (g_FX_t ps88_2 ((Gs90 10 8 rfl).trans (Gs88 10 8 rfl)).symm ((funext (fun j => Gs90 17 j rfl)).trans (funext (fun j => Gs88 17 j rfl))).symm ((funext (fun j => Gs90 18 j rfl)).trans (funext (fun j => Gs88 18 j rfl))).symm ((Gs90 16 2 rfl).trans (Gs88 16 2 rfl)).symm (funext (fun j => Gs90 81 j rfl))) (p := s0 0 (b3 + 1)) (g := s0 0 (b3 + 2)) (by omega) (by omega) rfl rfl rfl rfl rfl rfl rfl)).2
              exfalso
              omega
          · clear hr91
            refine h_iconst (pc' := 42) (x := (Int32.ofInt 1)) rfl rfl rfl ?_
            refine h_goto (pc' := 46) rfl rfl ?_
            refine h_iret rfl rfl (h_Kv ?_)
            clear hz2 hz4
            refine h_aload_n (pc' := 741) rfl rfl rfl ?_
            refine h_aload_n (pc' := 742) rfl rfl rfl ?_
            refine h_iload_n (pc' := 743) rfl rfl rfl ?_
            refine h_iconst (pc' := 744) (x := (Int32.ofInt 1)) rfl rfl rfl ?_
            refine h_iadd (pc' := 745) rfl rfl hy3 ci_1 rfl (by omega) (by omega) (fun z123 hz123 => ?_)
            refine h_iald (pc' := 746) (v := s0 0 (b3 + 1)) rfl rfl rfl hz123 (by omega) (by omega) (Zs92 _) (fun z124 hz124 => ?_)
            have tz124 := h_rgv hz124
            clear hz123
            refine h_aload_n (pc' := 747) rfl rfl rfl ?_
            refine h_iload_n (pc' := 748) rfl rfl rfl ?_
            refine h_iconst (pc' := 749) (x := (Int32.ofInt 2)) rfl rfl rfl ?_
            refine h_iadd (pc' := 750) rfl rfl hy3 ci_2 rfl (by omega) (by omega) (fun z125 hz125 => ?_)
            refine h_iald (pc' := 751) (v := s0 0 (b3 + 2)) rfl rfl rfl hz125 (by omega) (by omega) (Zs92 _) (fun z126 hz126 => ?_)
            have tz126 := h_rgv hz126
            clear hz125
            refine h_call (sp := false) (pc' := 754) (M := [(0, .ref 98), (1, .int z124), (2, .int z126)]) rfl rfl rfl rfl rfl rfl rfl rfl ?_
            refine h_aload_n (pc' := 1) rfl rfl rfl ?_
            refine h_iload_n (pc' := 2) rfl rfl rfl ?_
            refine h_iload_n (pc' := 3) rfl rfl rfl ?_
            refine h_call (sp := false) (pc' := 6) (M := [(0, .ref 98), (1, .int z124), (2, .int z126)]) rfl rfl rfl rfl rfl rfl rfl rfl ?_
            refine h_aload_n (pc' := 1) rfl rfl rfl ?_
            refine h_iload_n (pc' := 2) rfl rfl rfl ?_
            refine h_call (sp := false) (pc' := 5) (M := [(0, .ref 98), (1, .int z124)]) rfl rfl rfl rfl rfl rfl rfl rfl ?_
            refine h_iload_n (pc' := 1) rfl rfl rfl ?_
            refine h_i2l (pc' := 2) rfl rfl hz124 (fun z127 hz127 => ?_)
            refine h_lconst (pc' := 3) (x := (Int64.ofInt 0)) rfl rfl rfl ?_
            refine h_aload_n (pc' := 4) rfl rfl rfl ?_
            refine h_getI (pc' := 7) (v := s0 98 1) rfl rfl rfl rfl rfl es92_5 (fun z128 hz128 => ?_)
            have tz128 := tf_98_1 I0
            refine h_iconst (pc' := 8) (x := (Int32.ofInt 1)) rfl rfl rfl ?_
            refine h_isub (pc' := 9) rfl rfl hz128 ci_1 rfl (by omega) (by omega) (fun z129 hz129 => ?_)
            clear hz128
            refine h_i2l (pc' := 10) rfl rfl hz129 (fun z130 hz130 => ?_)
            clear hz129
            refine h_calls (pc' := 13) (M := [(0, .long z127), (2, .long (Int64.ofInt 0)), (4, .long z130)]) rfl rfl rfl rfl rfl rfl ?_
            refine h_lload_n (pc' := 1) rfl rfl rfl ?_
            refine h_lload_n (pc' := 2) rfl rfl rfl ?_
            refine h_lcmp (pc' := 3) rfl rfl hz127 cl_0 (fun z131 hz131 => ?_)
            refine h_zlt (tg := 17) (pc' := 6) rfl rfl rfl rfl (fun c132 => absurd c132 (by omega)) (fun c132 => ?_)
            replace c132 := (h_lcr hz131).2.1 c132
            clear hz131
            refine h_lload_n (pc' := 7) rfl rfl rfl ?_
            refine h_lload (pc' := 9) rfl rfl rfl ?_
            refine h_lcmp (pc' := 10) rfl rfl hz127 hz130 (fun z133 hz133 => ?_)
            refine h_zgt (tg := 17) (pc' := 13) rfl rfl rfl rfl (fun c134 => absurd c134 (by omega)) (fun c134 => ?_)
            replace c134 := (h_lcr hz133).2.2.1 c134
            clear hz133
            refine h_iconst (pc' := 14) (x := (Int32.ofInt 1)) rfl rfl rfl ?_
            refine h_goto (pc' := 18) rfl rfl ?_
            refine h_zret rfl rfl ci_1 (by omega) (h_Kv ?_)
            clear hz127 hz130
            refine h_zret rfl rfl ci_1 (by omega) (h_Kv ?_)
            refine h_zeq (tg := 16) (pc' := 8) rfl rfl rfl ci_1 (fun c135 => absurd c135 (by omega)) (fun c135 => ?_)
            refine h_aload_n (pc' := 9) rfl rfl rfl ?_
            refine h_iload_n (pc' := 10) rfl rfl rfl ?_
            refine h_call (sp := false) (pc' := 13) (M := [(0, .ref 98), (1, .int z126)]) rfl rfl rfl rfl rfl rfl rfl rfl ?_
            refine h_iload_n (pc' := 1) rfl rfl rfl ?_
            refine h_i2l (pc' := 2) rfl rfl hz126 (fun z136 hz136 => ?_)
            refine h_lconst (pc' := 3) (x := (Int64.ofInt 0)) rfl rfl rfl ?_
            refine h_aload_n (pc' := 4) rfl rfl rfl ?_
            refine h_getI (pc' := 7) (v := s0 98 2) rfl rfl rfl rfl rfl es92_7 (fun z137 hz137 => ?_)
            have tz137 := tf_98_2 I0
            refine h_iconst (pc' := 8) (x := (Int32.ofInt 1)) rfl rfl rfl ?_
            refine h_isub (pc' := 9) rfl rfl hz137 ci_1 rfl (by omega) (by omega) (fun z138 hz138 => ?_)
            clear hz137
            refine h_i2l (pc' := 10) rfl rfl hz138 (fun z139 hz139 => ?_)
            clear hz138
            refine h_calls (pc' := 13) (M := [(0, .long z136), (2, .long (Int64.ofInt 0)), (4, .long z139)]) rfl rfl rfl rfl rfl rfl ?_
            refine h_lload_n (pc' := 1) rfl rfl rfl ?_
            refine h_lload_n (pc' := 2) rfl rfl rfl ?_
            refine h_lcmp (pc' := 3) rfl rfl hz136 cl_0 (fun z140 hz140 => ?_)
            refine h_zlt (tg := 17) (pc' := 6) rfl rfl rfl rfl (fun c141 => absurd c141 (by omega)) (fun c141 => ?_)
            replace c141 := (h_lcr hz140).2.1 c141
            clear hz140
            refine h_lload_n (pc' := 7) rfl rfl rfl ?_
            refine h_lload (pc' := 9) rfl rfl rfl ?_
            refine h_lcmp (pc' := 10) rfl rfl hz136 hz139 (fun z142 hz142 => ?_)
            refine h_zgt (tg := 17) (pc' := 13) rfl rfl rfl rfl (fun c143 => absurd c143 (by omega)) (fun c143 => ?_)
            replace c143 := (h_lcr hz142).2.2.1 c143
            clear hz142
            refine h_iconst (pc' := 14) (x := (Int32.ofInt 1)) rfl rfl rfl ?_
            refine h_goto (pc' := 18) rfl rfl ?_
            refine h_zret rfl rfl ci_1 (by omega) (h_Kv ?_)
            clear hz136 hz139
            refine h_zret rfl rfl ci_1 (by omega) (h_Kv ?_)
            refine h_zne (tg := 18) (pc' := 16) rfl rfl rfl ci_1 (fun c144 => ?_) (fun c144 => absurd c144 (by omega))
            refine h_aload_n (pc' := 19) rfl rfl rfl ?_
            refine h_iconst (pc' := 20) (x := (Int32.ofInt 0)) rfl rfl rfl ?_
            refine h_call (sp := false) (pc' := 23) (M := [(0, .ref 98), (1, .int (Int32.ofInt 0))]) rfl rfl rfl rfl rfl rfl rfl rfl ?_
            refine n_lays _ Is92  (fun s146 Is146 Gs146 ps146_0 => h_Kn ?_)
            have Zs146 : ∀ i, s146 0 i = s0 0 i := fun i => (Gs146 0 i rfl).trans (Zs92 i)
            have Fs146 : h_F (fun _ _ => true) s146 s0 := fun _ _ h => by cases h
            have es146_0 : s146 64 1 = s0 64 1 := (Gs146 64 1 rfl).trans es92_0
            have es146_1 : s146 98 11 = s0 98 11 := (Gs146 98 11 rfl).trans es92_1
            have es146_2 : s146 64 4 = s0 64 4 := (Gs146 64 4 rfl).trans es92_2
            have es146_3 : s146 98 16 = s0 98 16 := (Gs146 98 16 rfl).trans es92_3
            have es146_4 : s146 10 8 = s0 10 8 := (Gs146 10 8 rfl).trans es92_4
            have es146_5 : s146 98 1 = s0 98 1 := (Gs146 98 1 rfl).trans es92_5
            have es146_6 : s146 10 9 = s0 10 9 := (Gs146 10 9 rfl).trans es92_6
            have es146_7 : s146 98 2 = s0 98 2 := (Gs146 98 2 rfl).trans es92_7
            refine h_aload_n (pc' := 24) rfl rfl rfl ?_
            refine h_iconst (pc' := 25) (x := (Int32.ofInt 0)) rfl rfl rfl ?_
            refine h_iload_n (pc' := 26) rfl rfl rfl ?_
            refine h_iload_n (pc' := 27) rfl rfl rfl ?_
            refine h_call (sp := false) (pc' := 30) (M := [(0, .ref 98), (1, .int (Int32.ofInt 0)), (2, .int z124), (3, .int z126)]) rfl rfl rfl rfl rfl rfl rfl rfl ?_
            refine n_goesOn0 _ Is146  z124 _ hz124 (by omega) z126 _ hz126 (by omega) (fun r147 br147 hr147 s148 Is148 Gs148 tr147 ps148_0 => h_Kv ?_)
            have Zs148 : ∀ i, s148 0 i = s0 0 i := fun i => (Gs148 0 i rfl).trans (Zs146 i)
            have Fs148 : h_F (fun _ _ => true) s148 s0 := fun _ _ h => by cases h
            have es148_0 : s148 64 1 = s0 64 1 := (Gs148 64 1 rfl).trans es146_0
            have es148_1 : s148 98 11 = s0 98 11 := (Gs148 98 11 rfl).trans es146_1
            have es148_2 : s148 64 4 = s0 64 4 := (Gs148 64 4 rfl).trans es146_2
            have es148_3 : s148 98 16 = s0 98 16 := (Gs148 98 16 rfl).trans es146_3
            have es148_4 : s148 10 8 = s0 10 8 := (Gs148 10 8 rfl).trans es146_4
            have es148_5 : s148 98 1 = s0 98 1 := (Gs148 98 1 rfl).trans es146_5
            have es148_6 : s148 10 9 = s0 10 9 := (Gs148 10 9 rfl).trans es146_6
            have es148_7 : s148 98 2 = s0 98 2 := (Gs148 98 2 rfl).trans es146_7
            refine h_zeq (tg := 37) (pc' := 33) rfl rfl rfl hr147 (fun c149 => ?_) (fun c149 => ?_)
            · clear hr147
              refine h_iconst (pc' := 38) (x := (Int32.ofInt 0)) rfl rfl rfl ?_
              refine h_iret rfl rfl (h_Kv ?_)
              refine h_iret rfl rfl (h_Kv ?_)
              clear hz124 hz126
              refine h_ceq (tg := 1441) (pc' := 757) rfl rfl rfl ci_1 ci_0 (fun c150 => absurd c150 (by omega)) (fun c150 => ?_)
              refine h_iconst (pc' := 758) (x := (Int32.ofInt 0)) rfl rfl rfl ?_
              have ga := (c_R.goR (c_R.fr (c_R.fr j2 I0 Gs88 rfl) Is88 Gs90 rfl) Is90 ((c_eq.fr (fl := false) Gs148 rfl).tr ((c_eq.fr (fl := false) Gs146 rfl).tr (c_eq.fr (fl := false) Gs92 rfl))) ((c_eq.fr (fl := true) Gs148 rfl).tr ((c_eq.fr (fl := true) Gs146 rfl).tr (c_eq.fr (fl := true) Gs92 rfl))) ((c_eq.fr (fl := true) Gs148 rfl).tr ((c_eq.fr (fl := true) Gs146 rfl).tr (c_eq.fr (fl := true) Gs92 rfl))) (((c_pg.fr (fl := true) (o := 44) Gs92 rfl).tr (c_pg.fr (fl := true) (o := 44) Gs146 rfl)).tr (c_pg.fr (fl := true) (o := 44) Gs148 rfl)) (((c_pg.fr (fl := true) (o := 88) Gs92 rfl).tr (c_pg.fr (fl := true) (o := 88) Gs146 rfl)).tr (c_pg.fr (fl := true) (o := 88) Gs148 rfl)) ((Gs148 98 1 rfl).trans ((Gs146 98 1 rfl).trans (Gs92 98 1 rfl))) ((Gs148 98 2 rfl).trans ((Gs146 98 2 rfl).trans (Gs92 98 2 rfl))) ((Gs148 62 0 rfl).trans ((Gs146 62 0 rfl).trans (Gs92 62 0 rfl))) ((Gs148 62 1 rfl).trans ((Gs146 62 1 rfl).trans (Gs92 62 1 rfl))) ((Gs148 110 0 rfl).trans ((Gs146 110 0 rfl).trans (Gs92 110 0 rfl))) ((Gs148 110 1 rfl).trans ((Gs146 110 1 rfl).trans (Gs92 110 1 rfl))) (p := s0 0 (b3 + 1)) (g := s0 0 (b3 + 2)) (by omega) (by omega) (by rcases ps92_0 with q | q; exact Or.inl ⟨q.1, q.2.1, ((funext (fun j => Gs148 20 j rfl)).trans (funext (fun j => Gs146 20 j rfl))).trans q.2.2.1, ((funext (fun j => Gs148 21 j rfl)).trans (funext (fun j => Gs146 21 j rfl))).trans q.2.2.2⟩; exact Or.inr ⟨q.1, q.2.1, ((funext (fun j => Gs148 20 j rfl)).trans (funext (fun j => Gs146 20 j rfl))).trans q.2.2.1, ((funext (fun j => Gs148 21 j rfl)).trans (funext (fun j => Gs146 21 j rfl))).trans q.2.2.2⟩) (by have q0 := ps148_0; rw [show s146 99 = s90 99 from (((funext (fun j => Gs146 99 j rfl)).trans (funext (fun j => Gs92 99 j rfl))))] at q0; exact q0) (c_R.may (c_R.fr (c_R.fr j2 I0 Gs88 rfl) Is88 Gs90 rfl) Is90 (g_ti.e j3 ((funext (fun j => Gs90 100 j rfl)).trans (funext (fun j => Gs88 100 j rfl)))) (g_DX_f (g_DX_t ps88_0 ((Gs90 10 8 rfl).trans (Gs88 10 8 rfl)).symm ((funext (fun j => Gs90 12 j rfl)).trans (funext (fun j => Gs88 12 j rfl))).symm ((funext (fun j => Gs90 11 j rfl)).trans (funext (fun j => Gs88 11 j rfl))).symm ((Gs90 13 2 rfl).trans (Gs88 13 2 rfl)).symm ((funext (fun j => Gs90 14 j rfl)).trans (funext (fun j => Gs88 14 j rfl))).symm ((funext (fun j => Gs90 15 j rfl)).trans (funext (fun j => Gs88 15 j rfl))).symm) (funext (fun j => Gs90 80 j rfl))) (g_DM_t ps146_0 (Gs92 98 1 rfl) (Gs92 99 18 rfl) (funext (fun j => Gs92 99 j rfl)) (funext (fun j => Gs92 100 j rfl))) (g_FX_t ps88_2 ((Gs90 10 8 rfl).trans (Gs88 10 8 rfl)).symm ((funext (fun j => Gs90 17 j rfl)).trans (funext (fun j => Gs88 17 j rfl))).symm ((funext (fun j => Gs90 18 j rfl)).trans (funext (fun j => Gs88 18 j rfl))).symm ((Gs90 16 2 rfl).trans (Gs88 16 2 rfl)).symm (funext (fun j => Gs90 81 j rfl))) (p := s0 0 (b3 + 1)) (g := s0 0 (b3 + 2)) (by omega) (by omega) rfl rfl rfl rfl rfl rfl rfl)).2
              exfalso
              omega
            · clear hr147
              refine h_iconst (pc' := 34) (x := (Int32.ofInt 1)) rfl rfl rfl ?_
              refine h_goto (pc' := 38) rfl rfl ?_
              refine h_iret rfl rfl (h_Kv ?_)
              refine h_iret rfl rfl (h_Kv ?_)
              clear hz124 hz126
              refine h_ceq (tg := 1441) (pc' := 757) rfl rfl rfl ci_1 ci_1 (fun c151 => ?_) (fun c151 => absurd (Int.le_antisymm (by omega) (by omega)) c151)
              exact kk _ Is148 (by first | exact d_tape.le j0 (Int.le_antisymm (by omega) (by omega)) (by omega) (fun j => (Gs148 65 j rfl).trans ((Gs146 65 j rfl).trans ((Gs92 65 j rfl).trans ((Gs90 65 j rfl).trans ((Gs88 65 j rfl)))))) (fun j => (Gs148 102 j rfl).trans ((Gs146 102 j rfl).trans ((Gs92 102 j rfl).trans ((Gs90 102 j rfl).trans ((Gs88 102 j rfl)))))) | (exfalso; omega)) (Int.le_antisymm (by omega) (by omega)) (c_R.goR (c_R.fr (c_R.fr j2 I0 Gs88 rfl) Is88 Gs90 rfl) Is90 ((c_eq.fr (fl := false) Gs148 rfl).tr ((c_eq.fr (fl := false) Gs146 rfl).tr (c_eq.fr (fl := false) Gs92 rfl))) ((c_eq.fr (fl := true) Gs148 rfl).tr ((c_eq.fr (fl := true) Gs146 rfl).tr (c_eq.fr (fl := true) Gs92 rfl))) ((c_eq.fr (fl := true) Gs148 rfl).tr ((c_eq.fr (fl := true) Gs146 rfl).tr (c_eq.fr (fl := true) Gs92 rfl))) (((c_pg.fr (fl := true) (o := 44) Gs92 rfl).tr (c_pg.fr (fl := true) (o := 44) Gs146 rfl)).tr (c_pg.fr (fl := true) (o := 44) Gs148 rfl)) (((c_pg.fr (fl := true) (o := 88) Gs92 rfl).tr (c_pg.fr (fl := true) (o := 88) Gs146 rfl)).tr (c_pg.fr (fl := true) (o := 88) Gs148 rfl)) ((Gs148 98 1 rfl).trans ((Gs146 98 1 rfl).trans (Gs92 98 1 rfl))) ((Gs148 98 2 rfl).trans ((Gs146 98 2 rfl).trans (Gs92 98 2 rfl))) ((Gs148 62 0 rfl).trans ((Gs146 62 0 rfl).trans (Gs92 62 0 rfl))) ((Gs148 62 1 rfl).trans ((Gs146 62 1 rfl).trans (Gs92 62 1 rfl))) ((Gs148 110 0 rfl).trans ((Gs146 110 0 rfl).trans (Gs92 110 0 rfl))) ((Gs148 110 1 rfl).trans ((Gs146 110 1 rfl).trans (Gs92 110 1 rfl))) (p := s0 0 (b3 + 1)) (g := s0 0 (b3 + 2)) (by omega) (by omega) (by rcases ps92_0 with q | q; exact Or.inl ⟨q.1, q.2.1, ((funext (fun j => Gs148 20 j rfl)).trans (funext (fun j => Gs146 20 j rfl))).trans q.2.2.1, ((funext (fun j => Gs148 21 j rfl)).trans (funext (fun j => Gs146 21 j rfl))).trans q.2.2.2⟩; exact Or.inr ⟨q.1, q.2.1, ((funext (fun j => Gs148 20 j rfl)).trans (funext (fun j => Gs146 20 j rfl))).trans q.2.2.1, ((funext (fun j => Gs148 21 j rfl)).trans (funext (fun j => Gs146 21 j rfl))).trans q.2.2.2⟩) (by have q0 := ps148_0; rw [show s146 99 = s90 99 from (((funext (fun j => Gs146 99 j rfl)).trans (funext (fun j => Gs92 99 j rfl))))] at q0; exact q0) (c_R.may (c_R.fr (c_R.fr j2 I0 Gs88 rfl) Is88 Gs90 rfl) Is90 (g_ti.e j3 ((funext (fun j => Gs90 100 j rfl)).trans (funext (fun j => Gs88 100 j rfl)))) (g_DX_f (g_DX_t ps88_0 ((Gs90 10 8 rfl).trans (Gs88 10 8 rfl)).symm ((funext (fun j => Gs90 12 j rfl)).trans (funext (fun j => Gs88 12 j rfl))).symm ((funext (fun j => Gs90 11 j rfl)).trans (funext (fun j => Gs88 11 j rfl))).symm ((Gs90 13 2 rfl).trans (Gs88 13 2 rfl)).symm ((funext (fun j => Gs90 14 j rfl)).trans (funext (fun j => Gs88 14 j rfl))).symm ((funext (fun j => Gs90 15 j rfl)).trans (funext (fun j => Gs88 15 j rfl))).symm) (funext (fun j => Gs90 80 j rfl))) (g_DM_t ps146_0 (Gs92 98 1 rfl) (Gs92 99 18 rfl) (funext (fun j => Gs92 99 j rfl)) (funext (fun j => Gs92 100 j rfl))) (g_FX_t ps88_2 ((Gs90 10 8 rfl).trans (Gs88 10 8 rfl)).symm ((funext (fun j => Gs90 17 j rfl)).trans (funext (fun j => Gs88 17 j rfl))).symm ((funext (fun j => Gs90 18 j rfl)).trans (funext (fun j => Gs88 18 j rfl))).symm ((Gs90 16 2 rfl).trans (Gs88 16 2 rfl)).symm (funext (fun j => Gs90 81 j rfl))) (p := s0 0 (b3 + 1)) (g := s0 0 (b3 + 2)) (by omega) (by omega) rfl rfl rfl rfl rfl rfl rfl)).1 (g_ti.e j3 ((funext (fun j => Gs148 100 j rfl)).trans ((funext (fun j => Gs146 100 j rfl)).trans ((funext (fun j => Gs92 100 j rfl)).trans ((funext (fun j => Gs90 100 j rfl)).trans (funext (fun j => Gs88 100 j rfl))))))) (g_SH.e j4 ((funext (fun j => Gs148 94 j rfl)).trans ((funext (fun j => Gs146 94 j rfl)).trans ((funext (fun j => Gs92 94 j rfl)).trans ((funext (fun j => Gs90 94 j rfl)).trans (funext (fun j => Gs88 94 j rfl)))))) ((funext (fun j => Gs148 95 j rfl)).trans ((funext (fun j => Gs146 95 j rfl)).trans ((funext (fun j => Gs92 95 j rfl)).trans ((funext (fun j => Gs90 95 j rfl)).trans (funext (fun j => Gs88 95 j rfl)))))) ((funext (fun j => Gs148 96 j rfl)).trans ((funext (fun j => Gs146 96 j rfl)).trans ((funext (fun j => Gs92 96 j rfl)).trans ((funext (fun j => Gs90 96 j rfl)).trans (funext (fun j => Gs88 96 j rfl)))))) ((funext (fun j => Gs148 111 j rfl)).trans ((funext (fun j => Gs146 111 j rfl)).trans ((funext (fun j => Gs92 111 j rfl)).trans ((funext (fun j => Gs90 111 j rfl)).trans (funext (fun j => Gs88 111 j rfl)))))) ((funext (fun j => Gs148 112 j rfl)).trans ((funext (fun j => Gs146 112 j rfl)).trans ((funext (fun j => Gs92 112 j rfl)).trans ((funext (fun j => Gs90 112 j rfl)).trans (funext (fun j => Gs88 112 j rfl)))))) ((funext (fun j => Gs148 113 j rfl)).trans ((funext (fun j => Gs146 113 j rfl)).trans ((funext (fun j => Gs92 113 j rfl)).trans ((funext (fun j => Gs90 113 j rfl)).trans (funext (fun j => Gs88 113 j rfl)))))))
