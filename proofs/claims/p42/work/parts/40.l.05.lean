set_option maxHeartbeats 100000000 in
theorem g_case_571 {ns : Nat} (hns : ns ≤ 320) (s0 : h_S) (I0 : h_I s0) (j0 : d_tape s0 s0) (j1 : s0 64 4 = s0 98 16) (j2 : c_R true s0) (j3 : g_ti s0) (j4 : g_SH s0) (j5 : s0 90 2 = s0 98 29) (y3 : Int32) (b3 : Int) (hy3 : y3.toInt = b3) (hr : 0 ≤ b3 ∧ b3 + 5 ≤ ns) {Q : Option Value → h_S → Prop} (kk : ∀ τ, h_I τ → (d_tape τ τ) → (τ 64 4 = τ 98 16) → (c_R true τ) → (g_ti τ) → (g_SH τ) → (τ 90 2 = τ 98 29) → h_T g_P (g_Y ns) 225 1441 [(0, .ref 0), (1, .ref 9), (2, .ref 98), (3, .int y3)] [] τ Q) : h_T g_P (g_Y ns) 225 571 [(0, .ref 0), (1, .ref 9), (2, .ref 98), (3, .int y3)] [] s0 Q := by
  have F0_ : h_F (fun _ _ => true) s0 s0 := h_F.rf
  have j0_ := j0.2
  have i0 := tf_64_1 I0
  have i1 := tf_98_11 I0
  have i2 := tf_64_4 I0
  have i3 := tf_98_16 I0
  have i4 := tf_90_2 I0
  have i5 := tf_98_29 I0
  have i6 := tf_10_8 I0
  have i7 := tf_98_1 I0
  have i8 := tf_16_2 I0
  have j2_ := j2.sz
  have y25 := ty_99_5 I0 25 (by omega)
  refine h_aload_n (pc' := 572) rfl rfl rfl ?_
  refine h_aload_n (pc' := 573) rfl rfl rfl ?_
  refine h_iload_n (pc' := 574) rfl rfl rfl ?_
  refine h_iconst (pc' := 575) (x := (Int32.ofInt 1)) rfl rfl rfl ?_
  refine h_iadd (pc' := 576) rfl rfl hy3 ci_1 rfl (by omega) (by omega) (fun z1 hz1 => ?_)
  refine h_iald (pc' := 577) (v := s0 0 (b3 + 1)) rfl rfl rfl hz1 (by omega) (by omega) rfl (fun z2 hz2 => ?_)
  have tz2 := h_rgv hz2
  clear hz1
  refine h_aload_n (pc' := 578) rfl rfl rfl ?_
  refine h_iload_n (pc' := 579) rfl rfl rfl ?_
  refine h_iconst (pc' := 580) (x := (Int32.ofInt 2)) rfl rfl rfl ?_
  refine h_iadd (pc' := 581) rfl rfl hy3 ci_2 rfl (by omega) (by omega) (fun z3 hz3 => ?_)
  refine h_iald (pc' := 582) (v := s0 0 (b3 + 2)) rfl rfl rfl hz3 (by omega) (by omega) rfl (fun z4 hz4 => ?_)
  have tz4 := h_rgv hz4
  clear hz3
  refine h_call (sp := false) (pc' := 585) (M := [(0, .ref 9), (1, .int z2), (2, .int z4)]) rfl rfl rfl rfl rfl rfl rfl rfl ?_
  refine h_aload_n (pc' := 1) rfl rfl rfl ?_
  refine h_aload_n (pc' := 2) rfl rfl rfl ?_
  refine h_getR (pc' := 5) rfl rfl rfl rfl rfl ?_
  refine h_getR (pc' := 8) rfl rfl rfl rfl rfl ?_
  refine h_iload_n (pc' := 9) rfl rfl rfl ?_
  refine h_iload_n (pc' := 10) rfl rfl rfl ?_
  refine h_call (sp := false) (pc' := 13) (M := [(0, .ref 9), (1, .ref 16), (2, .int z2), (3, .int z4)]) rfl rfl rfl rfl rfl rfl rfl rfl ?_
  refine h_aload_n (pc' := 1) rfl rfl rfl ?_
  refine h_getR (pc' := 4) rfl rfl rfl rfl rfl ?_
  refine h_iload_n (pc' := 5) rfl rfl rfl ?_
  refine h_call (sp := false) (pc' := 8) (M := [(0, .ref 10), (1, .int z2)]) rfl rfl rfl rfl rfl rfl rfl rfl ?_
  refine h_iload_n (pc' := 1) rfl rfl rfl ?_
  refine h_zlt (tg := 16) (pc' := 4) rfl rfl rfl hz2 (fun c5 => ?_) (fun c5 => ?_)
  · refine h_iconst (pc' := 17) (x := (Int32.ofInt 0)) rfl rfl rfl ?_
    refine h_zret rfl rfl ci_0 (by omega) (h_Kv ?_)
    refine h_zeq (tg := 27) (pc' := 11) rfl rfl rfl ci_0 (fun c6 => ?_) (fun c6 => absurd (Int.le_antisymm (by omega) (by omega)) c6)
    refine h_iconst (pc' := 28) (x := (Int32.ofInt (-1))) rfl rfl rfl ?_
    refine h_iret rfl rfl (h_Kv ?_)
    refine h_iret rfl rfl (h_Kv ?_)
    clear hz2 hz4
    refine h_pop (pc' := 586) rfl rfl rfl ?_
    refine h_aload_n (pc' := 587) rfl rfl rfl ?_
    refine h_aload_n (pc' := 588) rfl rfl rfl ?_
    refine h_iload_n (pc' := 589) rfl rfl rfl ?_
    refine h_iconst (pc' := 590) (x := (Int32.ofInt 1)) rfl rfl rfl ?_
    refine h_iadd (pc' := 591) rfl rfl hy3 ci_1 rfl (by omega) (by omega) (fun z7 hz7 => ?_)
    refine h_iald (pc' := 592) (v := s0 0 (b3 + 1)) rfl rfl rfl hz7 (by omega) (by omega) rfl (fun z8 hz8 => ?_)
    have tz8 := h_rgv hz8
    clear hz7
    refine h_aload_n (pc' := 593) rfl rfl rfl ?_
    refine h_iload_n (pc' := 594) rfl rfl rfl ?_
    refine h_iconst (pc' := 595) (x := (Int32.ofInt 2)) rfl rfl rfl ?_
    refine h_iadd (pc' := 596) rfl rfl hy3 ci_2 rfl (by omega) (by omega) (fun z9 hz9 => ?_)
    refine h_iald (pc' := 597) (v := s0 0 (b3 + 2)) rfl rfl rfl hz9 (by omega) (by omega) rfl (fun z10 hz10 => ?_)
    have tz10 := h_rgv hz10
    clear hz9
    refine h_call (sp := false) (pc' := 600) (M := [(0, .ref 98), (1, .int z8), (2, .int z10)]) rfl rfl rfl rfl rfl rfl rfl rfl ?_
    refine h_aload_n (pc' := 1) rfl rfl rfl ?_
    refine h_iconst (pc' := 2) (x := (Int32.ofInt 1)) rfl rfl rfl ?_
    refine h_iload_n (pc' := 3) rfl rfl rfl ?_
    refine h_iload_n (pc' := 4) rfl rfl rfl ?_
    refine h_call (sp := false) (pc' := 7) (M := [(0, .ref 98), (1, .int (Int32.ofInt 1)), (2, .int z8), (3, .int z10)]) rfl rfl rfl rfl rfl rfl rfl rfl ?_
    refine h_aload_n (pc' := 1) rfl rfl rfl ?_
    refine h_iload_n (pc' := 2) rfl rfl rfl ?_
    refine h_call (sp := false) (pc' := 5) (M := [(0, .ref 98), (1, .int z8)]) rfl rfl rfl rfl rfl rfl rfl rfl ?_
    refine h_iload_n (pc' := 1) rfl rfl rfl ?_
    refine h_i2l (pc' := 2) rfl rfl hz8 (fun z11 hz11 => ?_)
    refine h_lconst (pc' := 3) (x := (Int64.ofInt 0)) rfl rfl rfl ?_
    refine h_aload_n (pc' := 4) rfl rfl rfl ?_
    refine h_getI (pc' := 7) (v := s0 98 1) rfl rfl rfl rfl rfl rfl (fun z12 hz12 => ?_)
    have tz12 := tf_98_1 I0
    refine h_iconst (pc' := 8) (x := (Int32.ofInt 1)) rfl rfl rfl ?_
    refine h_isub (pc' := 9) rfl rfl hz12 ci_1 rfl (by omega) (by omega) (fun z13 hz13 => ?_)
    clear hz12
    refine h_i2l (pc' := 10) rfl rfl hz13 (fun z14 hz14 => ?_)
    clear hz13
    refine h_calls (pc' := 13) (M := [(0, .long z11), (2, .long (Int64.ofInt 0)), (4, .long z14)]) rfl rfl rfl rfl rfl rfl ?_
    refine h_lload_n (pc' := 1) rfl rfl rfl ?_
    refine h_lload_n (pc' := 2) rfl rfl rfl ?_
    refine h_lcmp (pc' := 3) rfl rfl hz11 cl_0 (fun z15 hz15 => ?_)
    refine h_zlt (tg := 17) (pc' := 6) rfl rfl rfl rfl (fun c16 => ?_) (fun c16 => absurd c16 (by omega))
    replace c16 := (h_lcr hz15).1 c16
    clear hz15
    refine h_iconst (pc' := 18) (x := (Int32.ofInt 0)) rfl rfl rfl ?_
    refine h_zret rfl rfl ci_0 (by omega) (h_Kv ?_)
    clear hz11 hz14
    refine h_zret rfl rfl ci_0 (by omega) (h_Kv ?_)
    refine h_zeq (tg := 21) (pc' := 8) rfl rfl rfl ci_0 (fun c17 => ?_) (fun c17 => absurd (Int.le_antisymm (by omega) (by omega)) c17)
    refine h_iconst (pc' := 22) (x := (Int32.ofInt (-1))) rfl rfl rfl ?_
    refine h_iret rfl rfl (h_Kv ?_)
    refine h_iret rfl rfl (h_Kv ?_)
    clear hz10 hz8
    refine h_pop (pc' := 601) rfl rfl rfl ?_
    refine h_goto (pc' := 1441) rfl rfl ?_
    exact kk _ I0 (by first | exact d_tape.le j0 (Int.le_antisymm (by omega) (by omega)) (by omega) (fun j => rfl) (fun j => rfl) | (exfalso; omega)) (Int.le_antisymm (by omega) (by omega)) j2 (g_ti.e j3 rfl) (g_SH.e j4 rfl rfl rfl rfl rfl rfl) (Int.le_antisymm (by omega) (by omega))
  · refine h_iload_n (pc' := 5) rfl rfl rfl ?_
    refine h_aload_n (pc' := 6) rfl rfl rfl ?_
    refine h_getI (pc' := 9) (v := s0 10 8) rfl rfl rfl rfl rfl rfl (fun z18 hz18 => ?_)
    have tz18 := tf_10_8 I0
    refine h_cge (tg := 16) (pc' := 12) rfl rfl rfl hz2 hz18 (fun c19 => ?_) (fun c19 => ?_)
    · clear hz18
      refine h_iconst (pc' := 17) (x := (Int32.ofInt 0)) rfl rfl rfl ?_
      refine h_zret rfl rfl ci_0 (by omega) (h_Kv ?_)
      refine h_zeq (tg := 27) (pc' := 11) rfl rfl rfl ci_0 (fun c20 => ?_) (fun c20 => absurd (Int.le_antisymm (by omega) (by omega)) c20)
      refine h_iconst (pc' := 28) (x := (Int32.ofInt (-1))) rfl rfl rfl ?_
      refine h_iret rfl rfl (h_Kv ?_)
      refine h_iret rfl rfl (h_Kv ?_)
      clear hz2 hz4
      refine h_pop (pc' := 586) rfl rfl rfl ?_
      refine h_aload_n (pc' := 587) rfl rfl rfl ?_
      refine h_aload_n (pc' := 588) rfl rfl rfl ?_
      refine h_iload_n (pc' := 589) rfl rfl rfl ?_
      refine h_iconst (pc' := 590) (x := (Int32.ofInt 1)) rfl rfl rfl ?_
      refine h_iadd (pc' := 591) rfl rfl hy3 ci_1 rfl (by omega) (by omega) (fun z21 hz21 => ?_)
      refine h_iald (pc' := 592) (v := s0 0 (b3 + 1)) rfl rfl rfl hz21 (by omega) (by omega) rfl (fun z22 hz22 => ?_)
      have tz22 := h_rgv hz22
      clear hz21
      refine h_aload_n (pc' := 593) rfl rfl rfl ?_
      refine h_iload_n (pc' := 594) rfl rfl rfl ?_
      refine h_iconst (pc' := 595) (x := (Int32.ofInt 2)) rfl rfl rfl ?_
      refine h_iadd (pc' := 596) rfl rfl hy3 ci_2 rfl (by omega) (by omega) (fun z23 hz23 => ?_)
      refine h_iald (pc' := 597) (v := s0 0 (b3 + 2)) rfl rfl rfl hz23 (by omega) (by omega) rfl (fun z24 hz24 => ?_)
      have tz24 := h_rgv hz24
      clear hz23
      refine h_call (sp := false) (pc' := 600) (M := [(0, .ref 98), (1, .int z22), (2, .int z24)]) rfl rfl rfl rfl rfl rfl rfl rfl ?_
      refine h_aload_n (pc' := 1) rfl rfl rfl ?_
      refine h_iconst (pc' := 2) (x := (Int32.ofInt 1)) rfl rfl rfl ?_
      refine h_iload_n (pc' := 3) rfl rfl rfl ?_
      refine h_iload_n (pc' := 4) rfl rfl rfl ?_
      refine h_call (sp := false) (pc' := 7) (M := [(0, .ref 98), (1, .int (Int32.ofInt 1)), (2, .int z22), (3, .int z24)]) rfl rfl rfl rfl rfl rfl rfl rfl ?_
      refine h_aload_n (pc' := 1) rfl rfl rfl ?_
      refine h_iload_n (pc' := 2) rfl rfl rfl ?_
      refine h_call (sp := false) (pc' := 5) (M := [(0, .ref 98), (1, .int z22)]) rfl rfl rfl rfl rfl rfl rfl rfl ?_
      refine h_iload_n (pc' := 1) rfl rfl rfl ?_
      refine h_i2l (pc' := 2) rfl rfl hz22 (fun z25 hz25 => ?_)
      refine h_lconst (pc' := 3) (x := (Int64.ofInt 0)) rfl rfl rfl ?_
      refine h_aload_n (pc' := 4) rfl rfl rfl ?_
      refine h_getI (pc' := 7) (v := s0 98 1) rfl rfl rfl rfl rfl rfl (fun z26 hz26 => ?_)
      have tz26 := tf_98_1 I0
      refine h_iconst (pc' := 8) (x := (Int32.ofInt 1)) rfl rfl rfl ?_
      refine h_isub (pc' := 9) rfl rfl hz26 ci_1 rfl (by omega) (by omega) (fun z27 hz27 => ?_)
      clear hz26
      refine h_i2l (pc' := 10) rfl rfl hz27 (fun z28 hz28 => ?_)
      clear hz27
      refine h_calls (pc' := 13) (M := [(0, .long z25), (2, .long (Int64.ofInt 0)), (4, .long z28)]) rfl rfl rfl rfl rfl rfl ?_
      refine h_lload_n (pc' := 1) rfl rfl rfl ?_
      refine h_lload_n (pc' := 2) rfl rfl rfl ?_
      refine h_lcmp (pc' := 3) rfl rfl hz25 cl_0 (fun z29 hz29 => ?_)
      refine h_zlt (tg := 17) (pc' := 6) rfl rfl rfl rfl (fun c30 => absurd c30 (by omega)) (fun c30 => ?_)
      replace c30 := (h_lcr hz29).2.1 c30
      clear hz29
      refine h_lload_n (pc' := 7) rfl rfl rfl ?_
      refine h_lload (pc' := 9) rfl rfl rfl ?_
      refine h_lcmp (pc' := 10) rfl rfl hz25 hz28 (fun z31 hz31 => ?_)
      refine h_zgt (tg := 17) (pc' := 13) rfl rfl rfl rfl (fun c32 => ?_) (fun c32 => absurd c32 (by omega))
      replace c32 := (h_lcr hz31).2.2.2.1 c32
      clear hz31
      refine h_iconst (pc' := 18) (x := (Int32.ofInt 0)) rfl rfl rfl ?_
      refine h_zret rfl rfl ci_0 (by omega) (h_Kv ?_)
      clear hz25 hz28
      refine h_zret rfl rfl ci_0 (by omega) (h_Kv ?_)
      refine h_zeq (tg := 21) (pc' := 8) rfl rfl rfl ci_0 (fun c33 => ?_) (fun c33 => absurd (Int.le_antisymm (by omega) (by omega)) c33)
      refine h_iconst (pc' := 22) (x := (Int32.ofInt (-1))) rfl rfl rfl ?_
      refine h_iret rfl rfl (h_Kv ?_)
      refine h_iret rfl rfl (h_Kv ?_)
      clear hz22 hz24
      refine h_pop (pc' := 601) rfl rfl rfl ?_
      refine h_goto (pc' := 1441) rfl rfl ?_
      exact kk _ I0 (by first | exact d_tape.le j0 (Int.le_antisymm (by omega) (by omega)) (by omega) (fun j => rfl) (fun j => rfl) | (exfalso; omega)) (Int.le_antisymm (by omega) (by omega)) j2 (g_ti.e j3 rfl) (g_SH.e j4 rfl rfl rfl rfl rfl rfl) (Int.le_antisymm (by omega) (by omega))
    · clear hz18
      refine h_iconst (pc' := 13) (x := (Int32.ofInt 1)) rfl rfl rfl ?_
      refine h_goto (pc' := 17) rfl rfl ?_
      refine h_zret rfl rfl ci_1 (by omega) (h_Kv ?_)
      refine h_zeq (tg := 27) (pc' := 11) rfl rfl rfl ci_1 (fun c34 => absurd c34 (by omega)) (fun c34 => ?_)
      refine h_aload_n (pc' := 12) rfl rfl rfl ?_
      refine h_getR (pc' := 15) rfl rfl rfl rfl rfl ?_
      refine h_iload_n (pc' := 16) rfl rfl rfl ?_
      refine h_call (sp := false) (pc' := 19) (M := [(0, .ref 10), (1, .int z4)]) rfl rfl rfl rfl rfl rfl rfl rfl ?_
      refine h_iload_n (pc' := 1) rfl rfl rfl ?_
      refine h_zlt (tg := 16) (pc' := 4) rfl rfl rfl hz4 (fun c35 => ?_) (fun c35 => ?_)
      · refine h_iconst (pc' := 17) (x := (Int32.ofInt 0)) rfl rfl rfl ?_
        refine h_zret rfl rfl ci_0 (by omega) (h_Kv ?_)
        refine h_zeq (tg := 27) (pc' := 22) rfl rfl rfl ci_0 (fun c36 => ?_) (fun c36 => absurd (Int.le_antisymm (by omega) (by omega)) c36)
        refine h_iconst (pc' := 28) (x := (Int32.ofInt (-1))) rfl rfl rfl ?_
        refine h_iret rfl rfl (h_Kv ?_)
        refine h_iret rfl rfl (h_Kv ?_)
        clear hz2 hz4
        refine h_pop (pc' := 586) rfl rfl rfl ?_
        refine h_aload_n (pc' := 587) rfl rfl rfl ?_
        refine h_aload_n (pc' := 588) rfl rfl rfl ?_
        refine h_iload_n (pc' := 589) rfl rfl rfl ?_
        refine h_iconst (pc' := 590) (x := (Int32.ofInt 1)) rfl rfl rfl ?_
        refine h_iadd (pc' := 591) rfl rfl hy3 ci_1 rfl (by omega) (by omega) (fun z37 hz37 => ?_)
        refine h_iald (pc' := 592) (v := s0 0 (b3 + 1)) rfl rfl rfl hz37 (by omega) (by omega) rfl (fun z38 hz38 => ?_)
        have tz38 := h_rgv hz38
        clear hz37
        refine h_aload_n (pc' := 593) rfl rfl rfl ?_
        refine h_iload_n (pc' := 594) rfl rfl rfl ?_
        refine h_iconst (pc' := 595) (x := (Int32.ofInt 2)) rfl rfl rfl ?_
        refine h_iadd (pc' := 596) rfl rfl hy3 ci_2 rfl (by omega) (by omega) (fun z39 hz39 => ?_)
        refine h_iald (pc' := 597) (v := s0 0 (b3 + 2)) rfl rfl rfl hz39 (by omega) (by omega) rfl (fun z40 hz40 => ?_)
        have tz40 := h_rgv hz40
        clear hz39
        refine h_call (sp := false) (pc' := 600) (M := [(0, .ref 98), (1, .int z38), (2, .int z40)]) rfl rfl rfl rfl rfl rfl rfl rfl ?_
        refine h_aload_n (pc' := 1) rfl rfl rfl ?_
        refine h_iconst (pc' := 2) (x := (Int32.ofInt 1)) rfl rfl rfl ?_
        refine h_iload_n (pc' := 3) rfl rfl rfl ?_
        refine h_iload_n (pc' := 4) rfl rfl rfl ?_
        refine h_call (sp := false) (pc' := 7) (M := [(0, .ref 98), (1, .int (Int32.ofInt 1)), (2, .int z38), (3, .int z40)]) rfl rfl rfl rfl rfl rfl rfl rfl ?_
        refine h_aload_n (pc' := 1) rfl rfl rfl ?_
        refine h_iload_n (pc' := 2) rfl rfl rfl ?_
        refine h_call (sp := false) (pc' := 5) (M := [(0, .ref 98), (1, .int z38)]) rfl rfl rfl rfl rfl rfl rfl rfl ?_
        refine h_iload_n (pc' := 1) rfl rfl rfl ?_
        refine h_i2l (pc' := 2) rfl rfl hz38 (fun z41 hz41 => ?_)
        refine h_lconst (pc' := 3) (x := (Int64.ofInt 0)) rfl rfl rfl ?_
        refine h_aload_n (pc' := 4) rfl rfl rfl ?_
        refine h_getI (pc' := 7) (v := s0 98 1) rfl rfl rfl rfl rfl rfl (fun z42 hz42 => ?_)
        have tz42 := tf_98_1 I0
        refine h_iconst (pc' := 8) (x := (Int32.ofInt 1)) rfl rfl rfl ?_
        refine h_isub (pc' := 9) rfl rfl hz42 ci_1 rfl (by omega) (by omega) (fun z43 hz43 => ?_)
        clear hz42
        refine h_i2l (pc' := 10) rfl rfl hz43 (fun z44 hz44 => ?_)
        clear hz43
        refine h_calls (pc' := 13) (M := [(0, .long z41), (2, .long (Int64.ofInt 0)), (4, .long z44)]) rfl rfl rfl rfl rfl rfl ?_
        refine h_lload_n (pc' := 1) rfl rfl rfl ?_
        refine h_lload_n (pc' := 2) rfl rfl rfl ?_
        refine h_lcmp (pc' := 3) rfl rfl hz41 cl_0 (fun z45 hz45 => ?_)
        refine h_zlt (tg := 17) (pc' := 6) rfl rfl rfl rfl (fun c46 => absurd c46 (by omega)) (fun c46 => ?_)
        replace c46 := (h_lcr hz45).2.1 c46
        clear hz45
        refine h_lload_n (pc' := 7) rfl rfl rfl ?_
        refine h_lload (pc' := 9) rfl rfl rfl ?_
        refine h_lcmp (pc' := 10) rfl rfl hz41 hz44 (fun z47 hz47 => ?_)
        refine h_zgt (tg := 17) (pc' := 13) rfl rfl rfl rfl (fun c48 => absurd c48 (by omega)) (fun c48 => ?_)
        replace c48 := (h_lcr hz47).2.2.1 c48
        clear hz47
        refine h_iconst (pc' := 14) (x := (Int32.ofInt 1)) rfl rfl rfl ?_
        refine h_goto (pc' := 18) rfl rfl ?_
        refine h_zret rfl rfl ci_1 (by omega) (h_Kv ?_)
        clear hz41 hz44
        refine h_zret rfl rfl ci_1 (by omega) (h_Kv ?_)
        refine h_zeq (tg := 21) (pc' := 8) rfl rfl rfl ci_1 (fun c49 => absurd c49 (by omega)) (fun c49 => ?_)
        refine h_aload_n (pc' := 9) rfl rfl rfl ?_
        refine h_iload_n (pc' := 10) rfl rfl rfl ?_
        refine h_call (sp := false) (pc' := 13) (M := [(0, .ref 98), (1, .int z40)]) rfl rfl rfl rfl rfl rfl rfl rfl ?_
        refine h_iload_n (pc' := 1) rfl rfl rfl ?_
        refine h_i2l (pc' := 2) rfl rfl hz40 (fun z50 hz50 => ?_)
        refine h_lconst (pc' := 3) (x := (Int64.ofInt 0)) rfl rfl rfl ?_
        refine h_aload_n (pc' := 4) rfl rfl rfl ?_
        refine h_getI (pc' := 7) (v := s0 98 1) rfl rfl rfl rfl rfl rfl (fun z51 hz51 => ?_)
        refine h_iconst (pc' := 8) (x := (Int32.ofInt 1)) rfl rfl rfl ?_
        refine h_isub (pc' := 9) rfl rfl hz51 ci_1 rfl (by omega) (by omega) (fun z52 hz52 => ?_)
        clear hz51
        refine h_i2l (pc' := 10) rfl rfl hz52 (fun z53 hz53 => ?_)
        clear hz52
        refine h_calls (pc' := 13) (M := [(0, .long z50), (2, .long (Int64.ofInt 0)), (4, .long z53)]) rfl rfl rfl rfl rfl rfl ?_
        refine h_lload_n (pc' := 1) rfl rfl rfl ?_
        refine h_lload_n (pc' := 2) rfl rfl rfl ?_
        refine h_lcmp (pc' := 3) rfl rfl hz50 cl_0 (fun z54 hz54 => ?_)
        refine h_zlt (tg := 17) (pc' := 6) rfl rfl rfl rfl (fun c55 => ?_) (fun c55 => absurd c55 (by omega))
        replace c55 := (h_lcr hz54).1 c55
        clear hz54
        refine h_iconst (pc' := 18) (x := (Int32.ofInt 0)) rfl rfl rfl ?_
        refine h_zret rfl rfl ci_0 (by omega) (h_Kv ?_)
        clear hz50 hz53
        refine h_zret rfl rfl ci_0 (by omega) (h_Kv ?_)
        refine h_zeq (tg := 21) (pc' := 16) rfl rfl rfl ci_0 (fun c56 => ?_) (fun c56 => absurd (Int.le_antisymm (by omega) (by omega)) c56)
        refine h_iconst (pc' := 22) (x := (Int32.ofInt (-1))) rfl rfl rfl ?_
        refine h_iret rfl rfl (h_Kv ?_)
        refine h_iret rfl rfl (h_Kv ?_)
        clear hz38 hz40
        refine h_pop (pc' := 601) rfl rfl rfl ?_
        refine h_goto (pc' := 1441) rfl rfl ?_
        exact kk _ I0 (by first | exact d_tape.le j0 (Int.le_antisymm (by omega) (by omega)) (by omega) (fun j => rfl) (fun j => rfl) | (exfalso; omega)) (Int.le_antisymm (by omega) (by omega)) j2 (g_ti.e j3 rfl) (g_SH.e j4 rfl rfl rfl rfl rfl rfl) (Int.le_antisymm (by omega) (by omega))
      · refine h_iload_n (pc' := 5) rfl rfl rfl ?_
        refine h_aload_n (pc' := 6) rfl rfl rfl ?_
        refine h_getI (pc' := 9) (v := s0 10 8) rfl rfl rfl rfl rfl rfl (fun z57 hz57 => ?_)
        refine h_cge (tg := 16) (pc' := 12) rfl rfl rfl hz4 hz57 (fun c58 => ?_) (fun c58 => ?_)
        · clear hz57
          refine h_iconst (pc' := 17) (x := (Int32.ofInt 0)) rfl rfl rfl ?_
          refine h_zret rfl rfl ci_0 (by omega) (h_Kv ?_)
          refine h_zeq (tg := 27) (pc' := 22) rfl rfl rfl ci_0 (fun c59 => ?_) (fun c59 => absurd (Int.le_antisymm (by omega) (by omega)) c59)
          refine h_iconst (pc' := 28) (x := (Int32.ofInt (-1))) rfl rfl rfl ?_
          refine h_iret rfl rfl (h_Kv ?_)
          refine h_iret rfl rfl (h_Kv ?_)
          clear hz2 hz4
          refine h_pop (pc' := 586) rfl rfl rfl ?_
          refine h_aload_n (pc' := 587) rfl rfl rfl ?_
          refine h_aload_n (pc' := 588) rfl rfl rfl ?_
          refine h_iload_n (pc' := 589) rfl rfl rfl ?_
          refine h_iconst (pc' := 590) (x := (Int32.ofInt 1)) rfl rfl rfl ?_
          refine h_iadd (pc' := 591) rfl rfl hy3 ci_1 rfl (by omega) (by omega) (fun z60 hz60 => ?_)
          refine h_iald (pc' := 592) (v := s0 0 (b3 + 1)) rfl rfl rfl hz60 (by omega) (by omega) rfl (fun z61 hz61 => ?_)
          have tz61 := h_rgv hz61
          clear hz60
          refine h_aload_n (pc' := 593) rfl rfl rfl ?_
          refine h_iload_n (pc' := 594) rfl rfl rfl ?_
          refine h_iconst (pc' := 595) (x := (Int32.ofInt 2)) rfl rfl rfl ?_
          refine h_iadd (pc' := 596) rfl rfl hy3 ci_2 rfl (by omega) (by omega) (fun z62 hz62 => ?_)
          refine h_iald (pc' := 597) (v := s0 0 (b3 + 2)) rfl rfl rfl hz62 (by omega) (by omega) rfl (fun z63 hz63 => ?_)
          have tz63 := h_rgv hz63
          clear hz62
          refine h_call (sp := false) (pc' := 600) (M := [(0, .ref 98), (1, .int z61), (2, .int z63)]) rfl rfl rfl rfl rfl rfl rfl rfl ?_
          refine h_aload_n (pc' := 1) rfl rfl rfl ?_
          refine h_iconst (pc' := 2) (x := (Int32.ofInt 1)) rfl rfl rfl ?_
          refine h_iload_n (pc' := 3) rfl rfl rfl ?_
          refine h_iload_n (pc' := 4) rfl rfl rfl ?_
          refine h_call (sp := false) (pc' := 7) (M := [(0, .ref 98), (1, .int (Int32.ofInt 1)), (2, .int z61), (3, .int z63)]) rfl rfl rfl rfl rfl rfl rfl rfl ?_
          refine h_aload_n (pc' := 1) rfl rfl rfl ?_
          refine h_iload_n (pc' := 2) rfl rfl rfl ?_
          refine h_call (sp := false) (pc' := 5) (M := [(0, .ref 98), (1, .int z61)]) rfl rfl rfl rfl rfl rfl rfl rfl ?_
          refine h_iload_n (pc' := 1) rfl rfl rfl ?_
          refine h_i2l (pc' := 2) rfl rfl hz61 (fun z64 hz64 => ?_)
          refine h_lconst (pc' := 3) (x := (Int64.ofInt 0)) rfl rfl rfl ?_
          refine h_aload_n (pc' := 4) rfl rfl rfl ?_
          refine h_getI (pc' := 7) (v := s0 98 1) rfl rfl rfl rfl rfl rfl (fun z65 hz65 => ?_)
          have tz65 := tf_98_1 I0
          refine h_iconst (pc' := 8) (x := (Int32.ofInt 1)) rfl rfl rfl ?_
          refine h_isub (pc' := 9) rfl rfl hz65 ci_1 rfl (by omega) (by omega) (fun z66 hz66 => ?_)
          clear hz65
          refine h_i2l (pc' := 10) rfl rfl hz66 (fun z67 hz67 => ?_)
          clear hz66
          refine h_calls (pc' := 13) (M := [(0, .long z64), (2, .long (Int64.ofInt 0)), (4, .long z67)]) rfl rfl rfl rfl rfl rfl ?_
          refine h_lload_n (pc' := 1) rfl rfl rfl ?_
          refine h_lload_n (pc' := 2) rfl rfl rfl ?_
          refine h_lcmp (pc' := 3) rfl rfl hz64 cl_0 (fun z68 hz68 => ?_)
          refine h_zlt (tg := 17) (pc' := 6) rfl rfl rfl rfl (fun c69 => absurd c69 (by omega)) (fun c69 => ?_)
          replace c69 := (h_lcr hz68).2.1 c69
          clear hz68
          refine h_lload_n (pc' := 7) rfl rfl rfl ?_
          refine h_lload (pc' := 9) rfl rfl rfl ?_
          refine h_lcmp (pc' := 10) rfl rfl hz64 hz67 (fun z70 hz70 => ?_)
          refine h_zgt (tg := 17) (pc' := 13) rfl rfl rfl rfl (fun c71 => absurd c71 (by omega)) (fun c71 => ?_)
          replace c71 := (h_lcr hz70).2.2.1 c71
          clear hz70
          refine h_iconst (pc' := 14) (x := (Int32.ofInt 1)) rfl rfl rfl ?_
          refine h_goto (pc' := 18) rfl rfl ?_
          refine h_zret rfl rfl ci_1 (by omega) (h_Kv ?_)
          clear hz64 hz67
          refine h_zret rfl rfl ci_1 (by omega) (h_Kv ?_)
          refine h_zeq (tg := 21) (pc' := 8) rfl rfl rfl ci_1 (fun c72 => absurd c72 (by omega)) (fun c72 => ?_)
          refine h_aload_n (pc' := 9) rfl rfl rfl ?_
          refine h_iload_n (pc' := 10) rfl rfl rfl ?_
          refine h_call (sp := false) (pc' := 13) (M := [(0, .ref 98), (1, .int z63)]) rfl rfl rfl rfl rfl rfl rfl rfl ?_
          refine h_iload_n (pc' := 1) rfl rfl rfl ?_
          refine h_i2l (pc' := 2) rfl rfl hz63 (fun z73 hz73 => ?_)
          refine h_lconst (pc' := 3) (x := (Int64.ofInt 0)) rfl rfl rfl ?_
          refine h_aload_n (pc' := 4) rfl rfl rfl ?_
          refine h_getI (pc' := 7) (v := s0 98 1) rfl rfl rfl rfl rfl rfl (fun z74 hz74 => ?_)
          refine h_iconst (pc' := 8) (x := (Int32.ofInt 1)) rfl rfl rfl ?_
          refine h_isub (pc' := 9) rfl rfl hz74 ci_1 rfl (by omega) (by omega) (fun z75 hz75 => ?_)
          clear hz74
          refine h_i2l (pc' := 10) rfl rfl hz75 (fun z76 hz76 => ?_)
          clear hz75
          refine h_calls (pc' := 13) (M := [(0, .long z73), (2, .long (Int64.ofInt 0)), (4, .long z76)]) rfl rfl rfl rfl rfl rfl ?_
          refine h_lload_n (pc' := 1) rfl rfl rfl ?_
          refine h_lload_n (pc' := 2) rfl rfl rfl ?_
          refine h_lcmp (pc' := 3) rfl rfl hz73 cl_0 (fun z77 hz77 => ?_)
          refine h_zlt (tg := 17) (pc' := 6) rfl rfl rfl rfl (fun c78 => absurd c78 (by omega)) (fun c78 => ?_)
          replace c78 := (h_lcr hz77).2.1 c78
          clear hz77
          refine h_lload_n (pc' := 7) rfl rfl rfl ?_
          refine h_lload (pc' := 9) rfl rfl rfl ?_
          refine h_lcmp (pc' := 10) rfl rfl hz73 hz76 (fun z79 hz79 => ?_)
          refine h_zgt (tg := 17) (pc' := 13) rfl rfl rfl rfl (fun c80 => ?_) (fun c80 => absurd c80 (by omega))
          replace c80 := (h_lcr hz79).2.2.2.1 c80
          clear hz79
          refine h_iconst (pc' := 18) (x := (Int32.ofInt 0)) rfl rfl rfl ?_
          refine h_zret rfl rfl ci_0 (by omega) (h_Kv ?_)
          clear hz73 hz76
          refine h_zret rfl rfl ci_0 (by omega) (h_Kv ?_)
          refine h_zeq (tg := 21) (pc' := 16) rfl rfl rfl ci_0 (fun c81 => ?_) (fun c81 => absurd (Int.le_antisymm (by omega) (by omega)) c81)
          refine h_iconst (pc' := 22) (x := (Int32.ofInt (-1))) rfl rfl rfl ?_
          refine h_iret rfl rfl (h_Kv ?_)
          refine h_iret rfl rfl (h_Kv ?_)
          clear hz61 hz63
          refine h_pop (pc' := 601) rfl rfl rfl ?_
          refine h_goto (pc' := 1441) rfl rfl ?_
          exact kk _ I0 (by first | exact d_tape.le j0 (Int.le_antisymm (by omega) (by omega)) (by omega) (fun j => rfl) (fun j => rfl) | (exfalso; omega)) (Int.le_antisymm (by omega) (by omega)) j2 (g_ti.e j3 rfl) (g_SH.e j4 rfl rfl rfl rfl rfl rfl) (Int.le_antisymm (by omega) (by omega))
        · clear hz57
          refine h_iconst (pc' := 13) (x := (Int32.ofInt 1)) rfl rfl rfl ?_
          refine h_goto (pc' := 17) rfl rfl ?_
          refine h_zret rfl rfl ci_1 (by omega) (h_Kv ?_)
          refine h_zeq (tg := 27) (pc' := 22) rfl rfl rfl ci_1 (fun c82 => absurd c82 (by omega)) (fun c82 => ?_)
          refine h_iload_n (pc' := 23) rfl rfl rfl ?_
          refine h_iload_n (pc' := 24) rfl rfl rfl ?_
          refine h_cne (tg := 29) (pc' := 27) rfl rfl rfl hz2 hz4 (fun c83 => ?_) (fun c83 => ?_)
          · refine h_aload_n (pc' := 30) rfl rfl rfl ?_
            refine h_iload_n (pc' := 31) rfl rfl rfl ?_
            refine h_iload_n (pc' := 32) rfl rfl rfl ?_
            refine h_call (sp := false) (pc' := 35) (M := [(0, .ref 16), (1, .int z2), (2, .int z4)]) rfl rfl rfl rfl rfl rfl rfl rfl ?_
            refine h_aload_n (pc' := 1) rfl rfl rfl ?_
            refine h_call (sp := false) (pc' := 4) (M := [(0, .ref 16)]) rfl rfl rfl rfl rfl rfl rfl rfl ?_
            refine h_aload_n (pc' := 1) rfl rfl rfl ?_
            refine h_getI (pc' := 4) (v := s0 16 2) rfl rfl rfl rfl rfl rfl (fun z84 hz84 => ?_)
            have tz84 := tf_16_2 I0
            refine h_iconst (pc' := 5) (x := (Int32.ofInt 3)) rfl rfl rfl ?_
            refine h_clt (tg := 12) (pc' := 8) rfl rfl rfl hz84 ci_3 (fun c85 => ?_) (fun c85 => ?_)
            · clear hz84
              refine h_iconst (pc' := 13) (x := (Int32.ofInt 0)) rfl rfl rfl ?_
              refine h_zret rfl rfl ci_0 (by omega) (h_Kv ?_)
              refine h_zeq (tg := 9) (pc' := 7) rfl rfl rfl ci_0 (fun c86 => ?_) (fun c86 => absurd (Int.le_antisymm (by omega) (by omega)) c86)
              refine h_aload_n (pc' := 10) rfl rfl rfl ?_
              refine h_getR (pc' := 13) rfl rfl rfl rfl rfl ?_
              refine h_aload_n (pc' := 14) rfl rfl rfl ?_
              refine h_getI (pc' := 17) (v := s0 16 2) rfl rfl rfl rfl rfl rfl (fun z87 hz87 => ?_)
              refine h_iload_n (pc' := 18) rfl rfl rfl ?_
              refine h_iast (pc' := 19) rfl rfl rfl rfl hz87 (by omega) (by omega) hz2 (h_fgt (E := fun s => s 64 1 = s0 64 1 ∧ s 98 11 = s0 98 11 ∧ s 64 4 = s0 64 4 ∧ s 98 16 = s0 98 16 ∧ s 90 2 = s0 90 2 ∧ s 98 29 = s0 98 29 ∧ s 10 8 = s0 10 8 ∧ s 98 1 = s0 98 1 ∧ s 16 2 = s0 16 2 ∧ s 99 25 = s0 99 25 ∧ s = h_up s0 17 (s0 16 2) (s0 0 (b3 + 1))) _ (in_17 I0 (by omega)) (F0_.up rfl) ⟨rfl, rfl, rfl, rfl, rfl, rfl, rfl, rfl, rfl, rfl, rfl⟩ (fun s88 Is88 Fs88 (es88 : s88 64 1 = s0 64 1 ∧ s88 98 11 = s0 98 11 ∧ s88 64 4 = s0 64 4 ∧ s88 98 16 = s0 98 16 ∧ s88 90 2 = s0 90 2 ∧ s88 98 29 = s0 98 29 ∧ s88 10 8 = s0 10 8 ∧ s88 98 1 = s0 98 1 ∧ s88 16 2 = s0 16 2 ∧ s88 99 25 = s0 99 25 ∧ s88 = h_up s0 17 (s0 16 2) (s0 0 (b3 + 1))) => ?_))
              have us88 := es88.2.2.2.2.2.2.2.2.2.2
              have Zs88 : ∀ i, s88 0 i = s0 0 i := fun i => (h_upo us88 rfl i).trans rfl
              clear hz87
              refine h_aload_n (pc' := 20) rfl rfl rfl ?_
              refine h_getR (pc' := 23) rfl rfl rfl rfl rfl ?_
              refine h_aload_n (pc' := 24) rfl rfl rfl ?_
              refine h_getI (pc' := 27) (v := s0 16 2) rfl rfl rfl rfl rfl es88.2.2.2.2.2.2.2.2.1 (fun z89 hz89 => ?_)
              refine h_iload_n (pc' := 28) rfl rfl rfl ?_
              refine h_iast (pc' := 29) rfl rfl rfl rfl hz89 (by omega) (by omega) hz4 (h_fgt (E := fun s => s 64 1 = s0 64 1 ∧ s 98 11 = s0 98 11 ∧ s 64 4 = s0 64 4 ∧ s 98 16 = s0 98 16 ∧ s 90 2 = s0 90 2 ∧ s 98 29 = s0 98 29 ∧ s 10 8 = s0 10 8 ∧ s 98 1 = s0 98 1 ∧ s 16 2 = s0 16 2 ∧ s 99 25 = s0 99 25 ∧ s = h_up s88 18 (s0 16 2) (s0 0 (b3 + 2))) _ (in_18 Is88 (by omega)) (Fs88.up rfl) ⟨es88.1, es88.2.1, es88.2.2.1, es88.2.2.2.1, es88.2.2.2.2.1, es88.2.2.2.2.2.1, es88.2.2.2.2.2.2.1, es88.2.2.2.2.2.2.2.1, es88.2.2.2.2.2.2.2.2.1, es88.2.2.2.2.2.2.2.2.2.1, rfl⟩ (fun s90 Is90 Fs90 (es90 : s90 64 1 = s0 64 1 ∧ s90 98 11 = s0 98 11 ∧ s90 64 4 = s0 64 4 ∧ s90 98 16 = s0 98 16 ∧ s90 90 2 = s0 90 2 ∧ s90 98 29 = s0 98 29 ∧ s90 10 8 = s0 10 8 ∧ s90 98 1 = s0 98 1 ∧ s90 16 2 = s0 16 2 ∧ s90 99 25 = s0 99 25 ∧ s90 = h_up s88 18 (s0 16 2) (s0 0 (b3 + 2))) => ?_))
              clear es88
              have us90 := es90.2.2.2.2.2.2.2.2.2.2
              have Zs90 : ∀ i, s90 0 i = s0 0 i := fun i => (h_upo us90 rfl i).trans (Zs88 i)
              clear hz89
              refine h_aload_n (pc' := 30) rfl rfl rfl ?_
              refine h_dup (pc' := 31) rfl rfl rfl ?_
              refine h_getI (pc' := 34) (v := s0 16 2) rfl rfl rfl rfl rfl es90.2.2.2.2.2.2.2.2.1 (fun z91 hz91 => ?_)
              refine h_iconst (pc' := 35) (x := (Int32.ofInt 1)) rfl rfl rfl ?_
              refine h_iadd (pc' := 36) rfl rfl hz91 ci_1 rfl (by omega) (by omega) (fun z92 hz92 => ?_)
              clear hz91
              refine h_put (pc' := 39) rfl rfl rfl rfl rfl rfl hz92 rfl (h_fgt (E := fun s => s 64 1 = s0 64 1 ∧ s 98 11 = s0 98 11 ∧ s 64 4 = s0 64 4 ∧ s 98 16 = s0 98 16 ∧ s 90 2 = s0 90 2 ∧ s 98 29 = s0 98 29 ∧ s 10 8 = s0 10 8 ∧ s 98 1 = s0 98 1 ∧ s 16 2 = ((s0 16 2) + 1) ∧ s 99 25 = s0 99 25 ∧ s = h_up s90 16 2 ((s0 16 2) + 1)) _ (if_16_2 Is90 (by omega)) (Fs90.up rfl) ⟨es90.1, es90.2.1, es90.2.2.1, es90.2.2.2.1, es90.2.2.2.2.1, es90.2.2.2.2.2.1, es90.2.2.2.2.2.2.1, es90.2.2.2.2.2.2.2.1, rfl, es90.2.2.2.2.2.2.2.2.2.1, rfl⟩ (fun s93 Is93 Fs93 (es93 : s93 64 1 = s0 64 1 ∧ s93 98 11 = s0 98 11 ∧ s93 64 4 = s0 64 4 ∧ s93 98 16 = s0 98 16 ∧ s93 90 2 = s0 90 2 ∧ s93 98 29 = s0 98 29 ∧ s93 10 8 = s0 10 8 ∧ s93 98 1 = s0 98 1 ∧ s93 16 2 = ((s0 16 2) + 1) ∧ s93 99 25 = s0 99 25 ∧ s93 = h_up s90 16 2 ((s0 16 2) + 1)) => ?_))
              clear es90
              have us93 := es93.2.2.2.2.2.2.2.2.2.2
              have Zs93 : ∀ i, s93 0 i = s0 0 i := fun i => (h_upo us93 rfl i).trans (Zs90 i)
              refine h_iconst (pc' := 40) (x := (Int32.ofInt 1)) rfl rfl rfl ?_
              refine h_zret rfl rfl ci_1 (by omega) (h_Kv ?_)
              refine h_zeq (tg := 45) (pc' := 38) rfl rfl rfl ci_1 (fun c94 => absurd c94 (by omega)) (fun c94 => ?_)
              refine h_aload_n (pc' := 39) rfl rfl rfl ?_
              refine h_getI (pc' := 42) (v := ((s0 16 2) + 1)) rfl rfl rfl rfl rfl es93.2.2.2.2.2.2.2.2.1 (fun z95 hz95 => ?_)
              refine h_goto (pc' := 47) rfl rfl ?_
              refine h_iret rfl rfl (h_Kv ?_)
              refine h_iret rfl rfl (h_Kv ?_)
              clear hz2 hz4
              refine h_pop (pc' := 586) rfl rfl rfl ?_
              clear hz95
              refine h_aload_n (pc' := 587) rfl rfl rfl ?_
              refine h_aload_n (pc' := 588) rfl rfl rfl ?_
              refine h_iload_n (pc' := 589) rfl rfl rfl ?_
              refine h_iconst (pc' := 590) (x := (Int32.ofInt 1)) rfl rfl rfl ?_
              refine h_iadd (pc' := 591) rfl rfl hy3 ci_1 rfl (by omega) (by omega) (fun z96 hz96 => ?_)
              refine h_iald (pc' := 592) (v := s0 0 (b3 + 1)) rfl rfl rfl hz96 (by omega) (by omega) (Zs93 _) (fun z97 hz97 => ?_)
              have tz97 := h_rgv hz97
              clear hz96
              refine h_aload_n (pc' := 593) rfl rfl rfl ?_
              refine h_iload_n (pc' := 594) rfl rfl rfl ?_
              refine h_iconst (pc' := 595) (x := (Int32.ofInt 2)) rfl rfl rfl ?_
              refine h_iadd (pc' := 596) rfl rfl hy3 ci_2 rfl (by omega) (by omega) (fun z98 hz98 => ?_)
              refine h_iald (pc' := 597) (v := s0 0 (b3 + 2)) rfl rfl rfl hz98 (by omega) (by omega) (Zs93 _) (fun z99 hz99 => ?_)
              have tz99 := h_rgv hz99
              clear hz98
              refine h_call (sp := false) (pc' := 600) (M := [(0, .ref 98), (1, .int z97), (2, .int z99)]) rfl rfl rfl rfl rfl rfl rfl rfl ?_
              refine h_aload_n (pc' := 1) rfl rfl rfl ?_
              refine h_iconst (pc' := 2) (x := (Int32.ofInt 1)) rfl rfl rfl ?_
              refine h_iload_n (pc' := 3) rfl rfl rfl ?_
              refine h_iload_n (pc' := 4) rfl rfl rfl ?_
              refine h_call (sp := false) (pc' := 7) (M := [(0, .ref 98), (1, .int (Int32.ofInt 1)), (2, .int z97), (3, .int z99)]) rfl rfl rfl rfl rfl rfl rfl rfl ?_
              refine h_aload_n (pc' := 1) rfl rfl rfl ?_
              refine h_iload_n (pc' := 2) rfl rfl rfl ?_
              refine h_call (sp := false) (pc' := 5) (M := [(0, .ref 98), (1, .int z97)]) rfl rfl rfl rfl rfl rfl rfl rfl ?_
              refine h_iload_n (pc' := 1) rfl rfl rfl ?_
              refine h_i2l (pc' := 2) rfl rfl hz97 (fun z100 hz100 => ?_)
              refine h_lconst (pc' := 3) (x := (Int64.ofInt 0)) rfl rfl rfl ?_
              refine h_aload_n (pc' := 4) rfl rfl rfl ?_
              refine h_getI (pc' := 7) (v := s0 98 1) rfl rfl rfl rfl rfl es93.2.2.2.2.2.2.2.1 (fun z101 hz101 => ?_)
              have tz101 := tf_98_1 I0
              refine h_iconst (pc' := 8) (x := (Int32.ofInt 1)) rfl rfl rfl ?_
              refine h_isub (pc' := 9) rfl rfl hz101 ci_1 rfl (by omega) (by omega) (fun z102 hz102 => ?_)
              clear hz101
              refine h_i2l (pc' := 10) rfl rfl hz102 (fun z103 hz103 => ?_)
              clear hz102
              refine h_calls (pc' := 13) (M := [(0, .long z100), (2, .long (Int64.ofInt 0)), (4, .long z103)]) rfl rfl rfl rfl rfl rfl ?_
              refine h_lload_n (pc' := 1) rfl rfl rfl ?_
              refine h_lload_n (pc' := 2) rfl rfl rfl ?_
              refine h_lcmp (pc' := 3) rfl rfl hz100 cl_0 (fun z104 hz104 => ?_)
              refine h_zlt (tg := 17) (pc' := 6) rfl rfl rfl rfl (fun c105 => absurd c105 (by omega)) (fun c105 => ?_)
              replace c105 := (h_lcr hz104).2.1 c105
              clear hz104
              refine h_lload_n (pc' := 7) rfl rfl rfl ?_
              refine h_lload (pc' := 9) rfl rfl rfl ?_
              refine h_lcmp (pc' := 10) rfl rfl hz100 hz103 (fun z106 hz106 => ?_)
              refine h_zgt (tg := 17) (pc' := 13) rfl rfl rfl rfl (fun c107 => absurd c107 (by omega)) (fun c107 => ?_)
              replace c107 := (h_lcr hz106).2.2.1 c107
              clear hz106
              refine h_iconst (pc' := 14) (x := (Int32.ofInt 1)) rfl rfl rfl ?_
              refine h_goto (pc' := 18) rfl rfl ?_
              refine h_zret rfl rfl ci_1 (by omega) (h_Kv ?_)
              clear hz100 hz103
              refine h_zret rfl rfl ci_1 (by omega) (h_Kv ?_)
              refine h_zeq (tg := 21) (pc' := 8) rfl rfl rfl ci_1 (fun c108 => absurd c108 (by omega)) (fun c108 => ?_)
              refine h_aload_n (pc' := 9) rfl rfl rfl ?_
              refine h_iload_n (pc' := 10) rfl rfl rfl ?_
              refine h_call (sp := false) (pc' := 13) (M := [(0, .ref 98), (1, .int z99)]) rfl rfl rfl rfl rfl rfl rfl rfl ?_
              refine h_iload_n (pc' := 1) rfl rfl rfl ?_
              refine h_i2l (pc' := 2) rfl rfl hz99 (fun z109 hz109 => ?_)
              refine h_lconst (pc' := 3) (x := (Int64.ofInt 0)) rfl rfl rfl ?_
              refine h_aload_n (pc' := 4) rfl rfl rfl ?_
              refine h_getI (pc' := 7) (v := s0 98 1) rfl rfl rfl rfl rfl es93.2.2.2.2.2.2.2.1 (fun z110 hz110 => ?_)
              refine h_iconst (pc' := 8) (x := (Int32.ofInt 1)) rfl rfl rfl ?_
              refine h_isub (pc' := 9) rfl rfl hz110 ci_1 rfl (by omega) (by omega) (fun z111 hz111 => ?_)
              clear hz110
              refine h_i2l (pc' := 10) rfl rfl hz111 (fun z112 hz112 => ?_)
              clear hz111
              refine h_calls (pc' := 13) (M := [(0, .long z109), (2, .long (Int64.ofInt 0)), (4, .long z112)]) rfl rfl rfl rfl rfl rfl ?_
              refine h_lload_n (pc' := 1) rfl rfl rfl ?_
              refine h_lload_n (pc' := 2) rfl rfl rfl ?_
              refine h_lcmp (pc' := 3) rfl rfl hz109 cl_0 (fun z113 hz113 => ?_)
              refine h_zlt (tg := 17) (pc' := 6) rfl rfl rfl rfl (fun c114 => absurd c114 (by omega)) (fun c114 => ?_)
              replace c114 := (h_lcr hz113).2.1 c114
              clear hz113
              refine h_lload_n (pc' := 7) rfl rfl rfl ?_
              refine h_lload (pc' := 9) rfl rfl rfl ?_
              refine h_lcmp (pc' := 10) rfl rfl hz109 hz112 (fun z115 hz115 => ?_)
              refine h_zgt (tg := 17) (pc' := 13) rfl rfl rfl rfl (fun c116 => absurd c116 (by omega)) (fun c116 => ?_)
              replace c116 := (h_lcr hz115).2.2.1 c116
              clear hz115
              refine h_iconst (pc' := 14) (x := (Int32.ofInt 1)) rfl rfl rfl ?_
              refine h_goto (pc' := 18) rfl rfl ?_
              refine h_zret rfl rfl ci_1 (by omega) (h_Kv ?_)
              clear hz109 hz112
              refine h_zret rfl rfl ci_1 (by omega) (h_Kv ?_)
              refine h_zeq (tg := 21) (pc' := 16) rfl rfl rfl ci_1 (fun c117 => absurd c117 (by omega)) (fun c117 => ?_)
              refine h_iload_n (pc' := 17) rfl rfl rfl ?_
              refine h_iload_n (pc' := 18) rfl rfl rfl ?_
              refine h_cne (tg := 23) (pc' := 21) rfl rfl rfl hz97 hz99 (fun c118 => ?_) (fun c118 => absurd c118 (by omega))
              refine h_iload_n (pc' := 24) rfl rfl rfl ?_
              refine h_calls (pc' := 27) (M := [(0, .int (Int32.ofInt 1))]) rfl rfl rfl rfl rfl rfl ?_
              refine h_iload_n (pc' := 1) rfl rfl rfl ?_
              refine h_zne (tg := 9) (pc' := 4) rfl rfl rfl ci_1 (fun c119 => ?_) (fun c119 => absurd c119 (by omega))
              refine h_bipush (pc' := 11) (x := (Int32.ofInt 19)) rfl rfl cb_19 ?_
              refine h_iret rfl rfl (h_Kv ?_)
              refine h_istore (pc' := 29) (M := [(4, .int (Int32.ofInt 19)), (0, .ref 98), (1, .int (Int32.ofInt 1)), (2, .int z97), (3, .int z99)]) rfl rfl rfl rfl ?_
              refine h_aload_n (pc' := 30) rfl rfl rfl ?_
              refine h_getR (pc' := 33) rfl rfl rfl rfl rfl ?_
              refine h_iload (pc' := 35) rfl rfl rfl ?_
              refine h_bipush (pc' := 37) (x := (Int32.ofInt 6)) rfl rfl cb_6 ?_
              refine h_iadd (pc' := 38) (c := 25) rfl rfl ci_19 ci_6 rfl (by omega) (by omega) (fun z120 hz120 => ?_)
              refine h_iald (pc' := 39) (v := s0 99 25) rfl rfl rfl hz120 (by omega) (by omega) es93.2.2.2.2.2.2.2.2.2.1 (fun z121 hz121 => ?_)
              have tz121 := ty_99_5 I0 25 (by omega)
              clear hz120
              refine h_istore (pc' := 41) (M := [(5, .int z121), (4, .int (Int32.ofInt 19)), (0, .ref 98), (1, .int (Int32.ofInt 1)), (2, .int z97), (3, .int z99)]) rfl rfl rfl rfl ?_
              refine h_iload (pc' := 43) rfl rfl rfl ?_
              refine h_iconst (pc' := 44) (x := (Int32.ofInt 3)) rfl rfl rfl ?_
              refine h_cne (tg := 50) (pc' := 47) rfl rfl rfl hz121 ci_3 (fun c122 => ?_) (fun c122 => absurd c122 (by omega))
              refine h_aload_n (pc' := 51) rfl rfl rfl ?_
              refine h_getR (pc' := 54) rfl rfl rfl rfl rfl ?_
              refine h_iload (pc' := 56) rfl rfl rfl ?_
              refine h_iconst (pc' := 57) (x := (Int32.ofInt 2)) rfl rfl rfl ?_
              refine h_iload (pc' := 59) rfl rfl rfl ?_
              refine h_imul (pc' := 60) rfl rfl ci_2 hz121 rfl (by omega) (by omega) (fun z123 hz123 => ?_)
              refine h_iadd (pc' := 61) rfl rfl ci_19 hz123 rfl (by omega) (by omega) (fun z124 hz124 => ?_)
              clear hz123
              refine h_iload_n (pc' := 62) rfl rfl rfl ?_
              refine h_iast (pc' := 63) rfl rfl rfl rfl hz124 (by omega) (by omega) hz97 (h_fgt (E := fun s => s 64 1 = s0 64 1 ∧ s 98 11 = s0 98 11 ∧ s 64 4 = s0 64 4 ∧ s 98 16 = s0 98 16 ∧ s 90 2 = s0 90 2 ∧ s 98 29 = s0 98 29 ∧ s 10 8 = s0 10 8 ∧ s 98 1 = s0 98 1 ∧ s 16 2 = ((s0 16 2) + 1) ∧ s 99 25 = s0 99 25 ∧ s = h_up s93 99 (19 + (2 * (s0 99 25))) (s0 0 (b3 + 1))) _ (ip_99_4 Is93 (by omega) (by omega)) (Fs93.up rfl) ⟨es93.1, es93.2.1, es93.2.2.1, es93.2.2.2.1, es93.2.2.2.2.1, es93.2.2.2.2.2.1, es93.2.2.2.2.2.2.1, es93.2.2.2.2.2.2.2.1, es93.2.2.2.2.2.2.2.2.1, h_up_n2 (by omega) es93.2.2.2.2.2.2.2.2.2.1, rfl⟩ (fun s125 Is125 Fs125 (es125 : s125 64 1 = s0 64 1 ∧ s125 98 11 = s0 98 11 ∧ s125 64 4 = s0 64 4 ∧ s125 98 16 = s0 98 16 ∧ s125 90 2 = s0 90 2 ∧ s125 98 29 = s0 98 29 ∧ s125 10 8 = s0 10 8 ∧ s125 98 1 = s0 98 1 ∧ s125 16 2 = ((s0 16 2) + 1) ∧ s125 99 25 = s0 99 25 ∧ s125 = h_up s93 99 (19 + (2 * (s0 99 25))) (s0 0 (b3 + 1))) => ?_))
              clear es93
              have us125 := es125.2.2.2.2.2.2.2.2.2.2
              have Zs125 : ∀ i, s125 0 i = s0 0 i := fun i => (h_upo us125 rfl i).trans (Zs93 i)
              clear hz124
              refine h_aload_n (pc' := 64) rfl rfl rfl ?_
              refine h_getR (pc' := 67) rfl rfl rfl rfl rfl ?_
              refine h_iload (pc' := 69) rfl rfl rfl ?_
              refine h_iconst (pc' := 70) (x := (Int32.ofInt 2)) rfl rfl rfl ?_
              refine h_iload (pc' := 72) rfl rfl rfl ?_
              refine h_imul (pc' := 73) rfl rfl ci_2 hz121 rfl (by omega) (by omega) (fun z126 hz126 => ?_)
              refine h_iadd (pc' := 74) rfl rfl ci_19 hz126 rfl (by omega) (by omega) (fun z127 hz127 => ?_)
              clear hz126
              refine h_iconst (pc' := 75) (x := (Int32.ofInt 1)) rfl rfl rfl ?_
              refine h_iadd (pc' := 76) rfl rfl hz127 ci_1 rfl (by omega) (by omega) (fun z128 hz128 => ?_)
              clear hz127
              refine h_iload_n (pc' := 77) rfl rfl rfl ?_
              refine h_iast (pc' := 78) rfl rfl rfl rfl hz128 (by omega) (by omega) hz99 (h_fgt (E := fun s => s 64 1 = s0 64 1 ∧ s 98 11 = s0 98 11 ∧ s 64 4 = s0 64 4 ∧ s 98 16 = s0 98 16 ∧ s 90 2 = s0 90 2 ∧ s 98 29 = s0 98 29 ∧ s 10 8 = s0 10 8 ∧ s 98 1 = s0 98 1 ∧ s 16 2 = ((s0 16 2) + 1) ∧ s 99 25 = s0 99 25 ∧ s = h_up s125 99 ((19 + (2 * (s0 99 25))) + 1) (s0 0 (b3 + 2))) _ (ip_99_4 Is125 (by omega) (by omega)) (Fs125.up rfl) ⟨es125.1, es125.2.1, es125.2.2.1, es125.2.2.2.1, es125.2.2.2.2.1, es125.2.2.2.2.2.1, es125.2.2.2.2.2.2.1, es125.2.2.2.2.2.2.2.1, es125.2.2.2.2.2.2.2.2.1, h_up_n2 (by omega) es125.2.2.2.2.2.2.2.2.2.1, rfl⟩ (fun s129 Is129 Fs129 (es129 : s129 64 1 = s0 64 1 ∧ s129 98 11 = s0 98 11 ∧ s129 64 4 = s0 64 4 ∧ s129 98 16 = s0 98 16 ∧ s129 90 2 = s0 90 2 ∧ s129 98 29 = s0 98 29 ∧ s129 10 8 = s0 10 8 ∧ s129 98 1 = s0 98 1 ∧ s129 16 2 = ((s0 16 2) + 1) ∧ s129 99 25 = s0 99 25 ∧ s129 = h_up s125 99 ((19 + (2 * (s0 99 25))) + 1) (s0 0 (b3 + 2))) => ?_))
              clear es125
              have us129 := es129.2.2.2.2.2.2.2.2.2.2
              have Zs129 : ∀ i, s129 0 i = s0 0 i := fun i => (h_upo us129 rfl i).trans (Zs125 i)
              clear hz128
              refine h_aload_n (pc' := 79) rfl rfl rfl ?_
              refine h_getR (pc' := 82) rfl rfl rfl rfl rfl ?_
              refine h_iload (pc' := 84) rfl rfl rfl ?_
              refine h_bipush (pc' := 86) (x := (Int32.ofInt 6)) rfl rfl cb_6 ?_
              refine h_iadd (pc' := 87) (c := 25) rfl rfl ci_19 ci_6 rfl (by omega) (by omega) (fun z130 hz130 => ?_)
              refine h_dup2 (pc' := 88) rfl rfl rfl ?_
              refine h_iald (pc' := 89) (v := s0 99 25) rfl rfl rfl hz130 (by omega) (by omega) es129.2.2.2.2.2.2.2.2.2.1 (fun z131 hz131 => ?_)
              refine h_iconst (pc' := 90) (x := (Int32.ofInt 1)) rfl rfl rfl ?_
              refine h_iadd (pc' := 91) rfl rfl hz131 ci_1 rfl (by omega) (by omega) (fun z132 hz132 => ?_)
              clear hz131
              refine h_iast (pc' := 92) rfl rfl rfl rfl hz130 (by omega) (by omega) hz132 (h_fgt (E := fun s => s 64 1 = s0 64 1 ∧ s 98 11 = s0 98 11 ∧ s 64 4 = s0 64 4 ∧ s 98 16 = s0 98 16 ∧ s 90 2 = s0 90 2 ∧ s 98 29 = s0 98 29 ∧ s 10 8 = s0 10 8 ∧ s 98 1 = s0 98 1 ∧ s 16 2 = ((s0 16 2) + 1) ∧ s 99 25 = ((s0 99 25) + 1) ∧ s = h_up s129 99 25 ((s0 99 25) + 1)) _ (ip_99_5 Is129 (by omega) (by omega)) (Fs129.up rfl) ⟨es129.1, es129.2.1, es129.2.2.1, es129.2.2.2.1, es129.2.2.2.2.1, es129.2.2.2.2.2.1, es129.2.2.2.2.2.2.1, es129.2.2.2.2.2.2.2.1, es129.2.2.2.2.2.2.2.2.1, rfl, rfl⟩ (fun s133 Is133 Fs133 (es133 : s133 64 1 = s0 64 1 ∧ s133 98 11 = s0 98 11 ∧ s133 64 4 = s0 64 4 ∧ s133 98 16 = s0 98 16 ∧ s133 90 2 = s0 90 2 ∧ s133 98 29 = s0 98 29 ∧ s133 10 8 = s0 10 8 ∧ s133 98 1 = s0 98 1 ∧ s133 16 2 = ((s0 16 2) + 1) ∧ s133 99 25 = ((s0 99 25) + 1) ∧ s133 = h_up s129 99 25 ((s0 99 25) + 1)) => ?_))
              clear es129
              have us133 := es133.2.2.2.2.2.2.2.2.2.2
              have Zs133 : ∀ i, s133 0 i = s0 0 i := fun i => (h_upo us133 rfl i).trans (Zs129 i)
              clear hz130
              refine h_iload (pc' := 94) rfl rfl rfl ?_
              refine h_iconst (pc' := 95) (x := (Int32.ofInt 1)) rfl rfl rfl ?_
              refine h_iadd (pc' := 96) rfl rfl hz121 ci_1 rfl (by omega) (by omega) (fun z134 hz134 => ?_)
              refine h_iret rfl rfl (h_Kv ?_)
              clear hz121
              refine h_iret rfl rfl (h_Kv ?_)
              clear hz97 hz99
              refine h_pop (pc' := 601) rfl rfl rfl ?_
              clear hz134
              refine h_goto (pc' := 1441) rfl rfl ?_
              exact kk _ Is133 (by first | exact d_tape.le j0 (Int.le_antisymm (by omega) (by omega)) (by omega) (fun j => (h_upo us133 rfl j).trans ((h_upo us129 rfl j).trans ((h_upo us125 rfl j).trans ((h_upo us93 rfl j).trans ((h_upo us90 rfl j).trans ((h_upo us88 rfl j))))))) (fun j => (h_upo us133 rfl j).trans ((h_upo us129 rfl j).trans ((h_upo us125 rfl j).trans ((h_upo us93 rfl j).trans ((h_upo us90 rfl j).trans ((h_upo us88 rfl j))))))) | (exfalso; omega)) (Int.le_antisymm (by omega) (by omega)) (c_R.feu j2 I0 (by omega) (by omega) (by omega) (by omega) (by omega) (Int.le_antisymm (by omega) (by omega)) (Int.le_antisymm (by omega) (by omega)) (Int.le_antisymm (by omega) (by omega)) (Int.le_antisymm (by omega) (by omega)) (Int.le_antisymm (by omega) (by omega)) (Int.le_antisymm (by omega) (by omega)) (fun j => (h_upo us133 rfl j).trans ((h_upo us129 rfl j).trans ((h_upo us125 rfl j).trans ((h_upo us93 rfl j).trans ((h_upo us90 rfl j).trans ((h_upi us88 j))))))) (fun j => (h_upo us133 rfl j).trans ((h_upo us129 rfl j).trans ((h_upo us125 rfl j).trans ((h_upo us93 rfl j).trans ((h_upi us90 j).trans (congrArg (fun z => if j = (s0 16 2) then (s0 0 (b3 + 2)) else z) ((h_upo us88 rfl j)))))))) (Int.le_antisymm (by omega) (by omega)) (fun j => (h_upi us133 j).trans (congrArg (fun z => if j = 25 then ((s0 99 25) + 1) else z) ((h_upi us129 j).trans (congrArg (fun z => if j = ((19 + (2 * (s0 99 25))) + 1) then (s0 0 (b3 + 2)) else z) ((h_upi us125 j).trans (congrArg (fun z => if j = (19 + (2 * (s0 99 25))) then (s0 0 (b3 + 1)) else z) ((h_upo us93 rfl j).trans ((h_upo us90 rfl j).trans ((h_upo us88 rfl j))))))))))  (fun p j n0 n1 n2 n3 => (h_upq us133 n3 j).trans ((h_upq us129 n3 j).trans ((h_upq us125 n3 j).trans ((h_upq us93 n0 j).trans ((h_upq us90 n2 j).trans ((h_upq us88 n1 j)))))))) (g_ti.e j3 ((h_upg us133 rfl).trans ((h_upg us129 rfl).trans ((h_upg us125 rfl).trans ((h_upg us93 rfl).trans ((h_upg us90 rfl).trans (h_upg us88 rfl))))))) (g_SH.e j4 ((h_upg us133 rfl).trans ((h_upg us129 rfl).trans ((h_upg us125 rfl).trans ((h_upg us93 rfl).trans ((h_upg us90 rfl).trans (h_upg us88 rfl)))))) ((h_upg us133 rfl).trans ((h_upg us129 rfl).trans ((h_upg us125 rfl).trans ((h_upg us93 rfl).trans ((h_upg us90 rfl).trans (h_upg us88 rfl)))))) ((h_upg us133 rfl).trans ((h_upg us129 rfl).trans ((h_upg us125 rfl).trans ((h_upg us93 rfl).trans ((h_upg us90 rfl).trans (h_upg us88 rfl)))))) ((h_upg us133 rfl).trans ((h_upg us129 rfl).trans ((h_upg us125 rfl).trans ((h_upg us93 rfl).trans ((h_upg us90 rfl).trans (h_upg us88 rfl)))))) ((h_upg us133 rfl).trans ((h_upg us129 rfl).trans ((h_upg us125 rfl).trans ((h_upg us93 rfl).trans ((h_upg us90 rfl).trans (h_upg us88 rfl)))))) ((h_upg us133 rfl).trans ((h_upg us129 rfl).trans ((h_upg us125 rfl).trans ((h_upg us93 rfl).trans ((h_upg us90 rfl).trans (h_upg us88 rfl))))))) (Int.le_antisymm (by omega) (by omega))
            · clear hz84
              refine h_iconst (pc' := 9) (x := (Int32.ofInt 1)) rfl rfl rfl ?_
              refine h_goto (pc' := 13) rfl rfl ?_
              refine h_zret rfl rfl ci_1 (by omega) (h_Kv ?_)
              refine h_zeq (tg := 9) (pc' := 7) rfl rfl rfl ci_1 (fun c135 => absurd c135 (by omega)) (fun c135 => ?_)
              refine h_iconst (pc' := 8) (x := (Int32.ofInt 0)) rfl rfl rfl ?_
              refine h_zret rfl rfl ci_0 (by omega) (h_Kv ?_)
              refine h_zeq (tg := 45) (pc' := 38) rfl rfl rfl ci_0 (fun c136 => ?_) (fun c136 => absurd (Int.le_antisymm (by omega) (by omega)) c136)
              refine h_bipush (pc' := 47) (x := (Int32.ofInt (-3))) rfl rfl cb_m3 ?_
              refine h_iret rfl rfl (h_Kv ?_)
              refine h_iret rfl rfl (h_Kv ?_)
              clear hz2 hz4
              refine h_pop (pc' := 586) rfl rfl rfl ?_
              refine h_aload_n (pc' := 587) rfl rfl rfl ?_
              refine h_aload_n (pc' := 588) rfl rfl rfl ?_
              refine h_iload_n (pc' := 589) rfl rfl rfl ?_
              refine h_iconst (pc' := 590) (x := (Int32.ofInt 1)) rfl rfl rfl ?_
              refine h_iadd (pc' := 591) rfl rfl hy3 ci_1 rfl (by omega) (by omega) (fun z137 hz137 => ?_)
              refine h_iald (pc' := 592) (v := s0 0 (b3 + 1)) rfl rfl rfl hz137 (by omega) (by omega) rfl (fun z138 hz138 => ?_)
              have tz138 := h_rgv hz138
              clear hz137
              refine h_aload_n (pc' := 593) rfl rfl rfl ?_
              refine h_iload_n (pc' := 594) rfl rfl rfl ?_
              refine h_iconst (pc' := 595) (x := (Int32.ofInt 2)) rfl rfl rfl ?_
              refine h_iadd (pc' := 596) rfl rfl hy3 ci_2 rfl (by omega) (by omega) (fun z139 hz139 => ?_)
              refine h_iald (pc' := 597) (v := s0 0 (b3 + 2)) rfl rfl rfl hz139 (by omega) (by omega) rfl (fun z140 hz140 => ?_)
              have tz140 := h_rgv hz140
              clear hz139
              refine h_call (sp := false) (pc' := 600) (M := [(0, .ref 98), (1, .int z138), (2, .int z140)]) rfl rfl rfl rfl rfl rfl rfl rfl ?_
              refine h_aload_n (pc' := 1) rfl rfl rfl ?_
              refine h_iconst (pc' := 2) (x := (Int32.ofInt 1)) rfl rfl rfl ?_
              refine h_iload_n (pc' := 3) rfl rfl rfl ?_
              refine h_iload_n (pc' := 4) rfl rfl rfl ?_
              refine h_call (sp := false) (pc' := 7) (M := [(0, .ref 98), (1, .int (Int32.ofInt 1)), (2, .int z138), (3, .int z140)]) rfl rfl rfl rfl rfl rfl rfl rfl ?_
              refine h_aload_n (pc' := 1) rfl rfl rfl ?_
              refine h_iload_n (pc' := 2) rfl rfl rfl ?_
              refine h_call (sp := false) (pc' := 5) (M := [(0, .ref 98), (1, .int z138)]) rfl rfl rfl rfl rfl rfl rfl rfl ?_
              refine h_iload_n (pc' := 1) rfl rfl rfl ?_
              refine h_i2l (pc' := 2) rfl rfl hz138 (fun z141 hz141 => ?_)
              refine h_lconst (pc' := 3) (x := (Int64.ofInt 0)) rfl rfl rfl ?_
              refine h_aload_n (pc' := 4) rfl rfl rfl ?_
              refine h_getI (pc' := 7) (v := s0 98 1) rfl rfl rfl rfl rfl rfl (fun z142 hz142 => ?_)
              have tz142 := tf_98_1 I0
              refine h_iconst (pc' := 8) (x := (Int32.ofInt 1)) rfl rfl rfl ?_
              refine h_isub (pc' := 9) rfl rfl hz142 ci_1 rfl (by omega) (by omega) (fun z143 hz143 => ?_)
              clear hz142
              refine h_i2l (pc' := 10) rfl rfl hz143 (fun z144 hz144 => ?_)
              clear hz143
              refine h_calls (pc' := 13) (M := [(0, .long z141), (2, .long (Int64.ofInt 0)), (4, .long z144)]) rfl rfl rfl rfl rfl rfl ?_
              refine h_lload_n (pc' := 1) rfl rfl rfl ?_
              refine h_lload_n (pc' := 2) rfl rfl rfl ?_
              refine h_lcmp (pc' := 3) rfl rfl hz141 cl_0 (fun z145 hz145 => ?_)
              refine h_zlt (tg := 17) (pc' := 6) rfl rfl rfl rfl (fun c146 => absurd c146 (by omega)) (fun c146 => ?_)
              replace c146 := (h_lcr hz145).2.1 c146
              clear hz145
              refine h_lload_n (pc' := 7) rfl rfl rfl ?_
              refine h_lload (pc' := 9) rfl rfl rfl ?_
              refine h_lcmp (pc' := 10) rfl rfl hz141 hz144 (fun z147 hz147 => ?_)
              refine h_zgt (tg := 17) (pc' := 13) rfl rfl rfl rfl (fun c148 => absurd c148 (by omega)) (fun c148 => ?_)
              replace c148 := (h_lcr hz147).2.2.1 c148
              clear hz147
              refine h_iconst (pc' := 14) (x := (Int32.ofInt 1)) rfl rfl rfl ?_
              refine h_goto (pc' := 18) rfl rfl ?_
              refine h_zret rfl rfl ci_1 (by omega) (h_Kv ?_)
              clear hz141 hz144
              refine h_zret rfl rfl ci_1 (by omega) (h_Kv ?_)
              refine h_zeq (tg := 21) (pc' := 8) rfl rfl rfl ci_1 (fun c149 => absurd c149 (by omega)) (fun c149 => ?_)
              refine h_aload_n (pc' := 9) rfl rfl rfl ?_
              refine h_iload_n (pc' := 10) rfl rfl rfl ?_
              refine h_call (sp := false) (pc' := 13) (M := [(0, .ref 98), (1, .int z140)]) rfl rfl rfl rfl rfl rfl rfl rfl ?_
              refine h_iload_n (pc' := 1) rfl rfl rfl ?_
              refine h_i2l (pc' := 2) rfl rfl hz140 (fun z150 hz150 => ?_)
              refine h_lconst (pc' := 3) (x := (Int64.ofInt 0)) rfl rfl rfl ?_
              refine h_aload_n (pc' := 4) rfl rfl rfl ?_
              refine h_getI (pc' := 7) (v := s0 98 1) rfl rfl rfl rfl rfl rfl (fun z151 hz151 => ?_)
              refine h_iconst (pc' := 8) (x := (Int32.ofInt 1)) rfl rfl rfl ?_
              refine h_isub (pc' := 9) rfl rfl hz151 ci_1 rfl (by omega) (by omega) (fun z152 hz152 => ?_)
              clear hz151
              refine h_i2l (pc' := 10) rfl rfl hz152 (fun z153 hz153 => ?_)
              clear hz152
              refine h_calls (pc' := 13) (M := [(0, .long z150), (2, .long (Int64.ofInt 0)), (4, .long z153)]) rfl rfl rfl rfl rfl rfl ?_
              refine h_lload_n (pc' := 1) rfl rfl rfl ?_
              refine h_lload_n (pc' := 2) rfl rfl rfl ?_
              refine h_lcmp (pc' := 3) rfl rfl hz150 cl_0 (fun z154 hz154 => ?_)
              refine h_zlt (tg := 17) (pc' := 6) rfl rfl rfl rfl (fun c155 => absurd c155 (by omega)) (fun c155 => ?_)
              replace c155 := (h_lcr hz154).2.1 c155
              clear hz154
              refine h_lload_n (pc' := 7) rfl rfl rfl ?_
              refine h_lload (pc' := 9) rfl rfl rfl ?_
              refine h_lcmp (pc' := 10) rfl rfl hz150 hz153 (fun z156 hz156 => ?_)
              refine h_zgt (tg := 17) (pc' := 13) rfl rfl rfl rfl (fun c157 => absurd c157 (by omega)) (fun c157 => ?_)
              replace c157 := (h_lcr hz156).2.2.1 c157
              clear hz156
              refine h_iconst (pc' := 14) (x := (Int32.ofInt 1)) rfl rfl rfl ?_
              refine h_goto (pc' := 18) rfl rfl ?_
              refine h_zret rfl rfl ci_1 (by omega) (h_Kv ?_)
              clear hz150 hz153
              refine h_zret rfl rfl ci_1 (by omega) (h_Kv ?_)
              refine h_zeq (tg := 21) (pc' := 16) rfl rfl rfl ci_1 (fun c158 => absurd c158 (by omega)) (fun c158 => ?_)
              refine h_iload_n (pc' := 17) rfl rfl rfl ?_
              refine h_iload_n (pc' := 18) rfl rfl rfl ?_
              refine h_cne (tg := 23) (pc' := 21) rfl rfl rfl hz138 hz140 (fun c159 => ?_) (fun c159 => absurd c159 (by omega))
              refine h_iload_n (pc' := 24) rfl rfl rfl ?_
              refine h_calls (pc' := 27) (M := [(0, .int (Int32.ofInt 1))]) rfl rfl rfl rfl rfl rfl ?_
              refine h_iload_n (pc' := 1) rfl rfl rfl ?_
              refine h_zne (tg := 9) (pc' := 4) rfl rfl rfl ci_1 (fun c160 => ?_) (fun c160 => absurd c160 (by omega))
              refine h_bipush (pc' := 11) (x := (Int32.ofInt 19)) rfl rfl cb_19 ?_
              refine h_iret rfl rfl (h_Kv ?_)
              refine h_istore (pc' := 29) (M := [(4, .int (Int32.ofInt 19)), (0, .ref 98), (1, .int (Int32.ofInt 1)), (2, .int z138), (3, .int z140)]) rfl rfl rfl rfl ?_
              refine h_aload_n (pc' := 30) rfl rfl rfl ?_
              refine h_getR (pc' := 33) rfl rfl rfl rfl rfl ?_
              refine h_iload (pc' := 35) rfl rfl rfl ?_
              refine h_bipush (pc' := 37) (x := (Int32.ofInt 6)) rfl rfl cb_6 ?_
              refine h_iadd (pc' := 38) (c := 25) rfl rfl ci_19 ci_6 rfl (by omega) (by omega) (fun z161 hz161 => ?_)
              refine h_iald (pc' := 39) (v := s0 99 25) rfl rfl rfl hz161 (by omega) (by omega) rfl (fun z162 hz162 => ?_)
              have tz162 := ty_99_5 I0 25 (by omega)
              clear hz161
              refine h_istore (pc' := 41) (M := [(5, .int z162), (4, .int (Int32.ofInt 19)), (0, .ref 98), (1, .int (Int32.ofInt 1)), (2, .int z138), (3, .int z140)]) rfl rfl rfl rfl ?_
              refine h_iload (pc' := 43) rfl rfl rfl ?_
              refine h_iconst (pc' := 44) (x := (Int32.ofInt 3)) rfl rfl rfl ?_
              refine h_cne (tg := 50) (pc' := 47) rfl rfl rfl hz162 ci_3 (fun c163 => absurd (Int.le_antisymm (by omega) (by omega)) c163) (fun c163 => ?_)
              refine h_bipush (pc' := 49) (x := (Int32.ofInt (-3))) rfl rfl cb_m3 ?_
              refine h_iret rfl rfl (h_Kv ?_)
              clear hz162
              refine h_iret rfl rfl (h_Kv ?_)
              clear hz138 hz140
              refine h_pop (pc' := 601) rfl rfl rfl ?_
              refine h_goto (pc' := 1441) rfl rfl ?_
              exact kk _ I0 (by first | exact d_tape.le j0 (Int.le_antisymm (by omega) (by omega)) (by omega) (fun j => rfl) (fun j => rfl) | (exfalso; omega)) (Int.le_antisymm (by omega) (by omega)) j2 (g_ti.e j3 rfl) (g_SH.e j4 rfl rfl rfl rfl rfl rfl) (Int.le_antisymm (by omega) (by omega))
          · refine h_iconst (pc' := 28) (x := (Int32.ofInt (-1))) rfl rfl rfl ?_
            refine h_iret rfl rfl (h_Kv ?_)
            refine h_iret rfl rfl (h_Kv ?_)
            clear hz2 hz4
            refine h_pop (pc' := 586) rfl rfl rfl ?_
            refine h_aload_n (pc' := 587) rfl rfl rfl ?_
            refine h_aload_n (pc' := 588) rfl rfl rfl ?_
            refine h_iload_n (pc' := 589) rfl rfl rfl ?_
            refine h_iconst (pc' := 590) (x := (Int32.ofInt 1)) rfl rfl rfl ?_
            refine h_iadd (pc' := 591) rfl rfl hy3 ci_1 rfl (by omega) (by omega) (fun z164 hz164 => ?_)
            refine h_iald (pc' := 592) (v := s0 0 (b3 + 1)) rfl rfl rfl hz164 (by omega) (by omega) rfl (fun z165 hz165 => ?_)
            have tz165 := h_rgv hz165
            clear hz164
            refine h_aload_n (pc' := 593) rfl rfl rfl ?_
            refine h_iload_n (pc' := 594) rfl rfl rfl ?_
            refine h_iconst (pc' := 595) (x := (Int32.ofInt 2)) rfl rfl rfl ?_
            refine h_iadd (pc' := 596) rfl rfl hy3 ci_2 rfl (by omega) (by omega) (fun z166 hz166 => ?_)
            refine h_iald (pc' := 597) (v := s0 0 (b3 + 2)) rfl rfl rfl hz166 (by omega) (by omega) rfl (fun z167 hz167 => ?_)
            have tz167 := h_rgv hz167
            clear hz166
            refine h_call (sp := false) (pc' := 600) (M := [(0, .ref 98), (1, .int z165), (2, .int z167)]) rfl rfl rfl rfl rfl rfl rfl rfl ?_
            refine h_aload_n (pc' := 1) rfl rfl rfl ?_
            refine h_iconst (pc' := 2) (x := (Int32.ofInt 1)) rfl rfl rfl ?_
            refine h_iload_n (pc' := 3) rfl rfl rfl ?_
            refine h_iload_n (pc' := 4) rfl rfl rfl ?_
            refine h_call (sp := false) (pc' := 7) (M := [(0, .ref 98), (1, .int (Int32.ofInt 1)), (2, .int z165), (3, .int z167)]) rfl rfl rfl rfl rfl rfl rfl rfl ?_
            refine h_aload_n (pc' := 1) rfl rfl rfl ?_
            refine h_iload_n (pc' := 2) rfl rfl rfl ?_
            refine h_call (sp := false) (pc' := 5) (M := [(0, .ref 98), (1, .int z165)]) rfl rfl rfl rfl rfl rfl rfl rfl ?_
            refine h_iload_n (pc' := 1) rfl rfl rfl ?_
            refine h_i2l (pc' := 2) rfl rfl hz165 (fun z168 hz168 => ?_)
            refine h_lconst (pc' := 3) (x := (Int64.ofInt 0)) rfl rfl rfl ?_
            refine h_aload_n (pc' := 4) rfl rfl rfl ?_
            refine h_getI (pc' := 7) (v := s0 98 1) rfl rfl rfl rfl rfl rfl (fun z169 hz169 => ?_)
            have tz169 := tf_98_1 I0
            refine h_iconst (pc' := 8) (x := (Int32.ofInt 1)) rfl rfl rfl ?_
            refine h_isub (pc' := 9) rfl rfl hz169 ci_1 rfl (by omega) (by omega) (fun z170 hz170 => ?_)
            clear hz169
            refine h_i2l (pc' := 10) rfl rfl hz170 (fun z171 hz171 => ?_)
            clear hz170
            refine h_calls (pc' := 13) (M := [(0, .long z168), (2, .long (Int64.ofInt 0)), (4, .long z171)]) rfl rfl rfl rfl rfl rfl ?_
            refine h_lload_n (pc' := 1) rfl rfl rfl ?_
            refine h_lload_n (pc' := 2) rfl rfl rfl ?_
            refine h_lcmp (pc' := 3) rfl rfl hz168 cl_0 (fun z172 hz172 => ?_)
            refine h_zlt (tg := 17) (pc' := 6) rfl rfl rfl rfl (fun c173 => absurd c173 (by omega)) (fun c173 => ?_)
            replace c173 := (h_lcr hz172).2.1 c173
            clear hz172
            refine h_lload_n (pc' := 7) rfl rfl rfl ?_
            refine h_lload (pc' := 9) rfl rfl rfl ?_
            refine h_lcmp (pc' := 10) rfl rfl hz168 hz171 (fun z174 hz174 => ?_)
            refine h_zgt (tg := 17) (pc' := 13) rfl rfl rfl rfl (fun c175 => absurd c175 (by omega)) (fun c175 => ?_)
            replace c175 := (h_lcr hz174).2.2.1 c175
            clear hz174
            refine h_iconst (pc' := 14) (x := (Int32.ofInt 1)) rfl rfl rfl ?_
            refine h_goto (pc' := 18) rfl rfl ?_
            refine h_zret rfl rfl ci_1 (by omega) (h_Kv ?_)
            clear hz168 hz171
            refine h_zret rfl rfl ci_1 (by omega) (h_Kv ?_)
            refine h_zeq (tg := 21) (pc' := 8) rfl rfl rfl ci_1 (fun c176 => absurd c176 (by omega)) (fun c176 => ?_)
            refine h_aload_n (pc' := 9) rfl rfl rfl ?_
            refine h_iload_n (pc' := 10) rfl rfl rfl ?_
            refine h_call (sp := false) (pc' := 13) (M := [(0, .ref 98), (1, .int z167)]) rfl rfl rfl rfl rfl rfl rfl rfl ?_
            refine h_iload_n (pc' := 1) rfl rfl rfl ?_
            refine h_i2l (pc' := 2) rfl rfl hz167 (fun z177 hz177 => ?_)
            refine h_lconst (pc' := 3) (x := (Int64.ofInt 0)) rfl rfl rfl ?_
            refine h_aload_n (pc' := 4) rfl rfl rfl ?_
            refine h_getI (pc' := 7) (v := s0 98 1) rfl rfl rfl rfl rfl rfl (fun z178 hz178 => ?_)
            refine h_iconst (pc' := 8) (x := (Int32.ofInt 1)) rfl rfl rfl ?_
            refine h_isub (pc' := 9) rfl rfl hz178 ci_1 rfl (by omega) (by omega) (fun z179 hz179 => ?_)
            clear hz178
            refine h_i2l (pc' := 10) rfl rfl hz179 (fun z180 hz180 => ?_)
            clear hz179
            refine h_calls (pc' := 13) (M := [(0, .long z177), (2, .long (Int64.ofInt 0)), (4, .long z180)]) rfl rfl rfl rfl rfl rfl ?_
            refine h_lload_n (pc' := 1) rfl rfl rfl ?_
            refine h_lload_n (pc' := 2) rfl rfl rfl ?_
            refine h_lcmp (pc' := 3) rfl rfl hz177 cl_0 (fun z181 hz181 => ?_)
            refine h_zlt (tg := 17) (pc' := 6) rfl rfl rfl rfl (fun c182 => absurd c182 (by omega)) (fun c182 => ?_)
            replace c182 := (h_lcr hz181).2.1 c182
            clear hz181
            refine h_lload_n (pc' := 7) rfl rfl rfl ?_
            refine h_lload (pc' := 9) rfl rfl rfl ?_
            refine h_lcmp (pc' := 10) rfl rfl hz177 hz180 (fun z183 hz183 => ?_)
            refine h_zgt (tg := 17) (pc' := 13) rfl rfl rfl rfl (fun c184 => absurd c184 (by omega)) (fun c184 => ?_)
            replace c184 := (h_lcr hz183).2.2.1 c184
            clear hz183
            refine h_iconst (pc' := 14) (x := (Int32.ofInt 1)) rfl rfl rfl ?_
            refine h_goto (pc' := 18) rfl rfl ?_
            refine h_zret rfl rfl ci_1 (by omega) (h_Kv ?_)
            clear hz177 hz180
            refine h_zret rfl rfl ci_1 (by omega) (h_Kv ?_)
            refine h_zeq (tg := 21) (pc' := 16) rfl rfl rfl ci_1 (fun c185 => absurd c185 (by omega)) (fun c185 => ?_)
            refine h_iload_n (pc' := 17) rfl rfl rfl ?_
            refine h_iload_n (pc' := 18) rfl rfl rfl ?_
            refine h_cne (tg := 23) (pc' := 21) rfl rfl rfl hz165 hz167 (fun c186 => absurd (Int.le_antisymm (by omega) (by omega)) c186) (fun c186 => ?_)
            refine h_iconst (pc' := 22) (x := (Int32.ofInt (-1))) rfl rfl rfl ?_
            refine h_iret rfl rfl (h_Kv ?_)
            refine h_iret rfl rfl (h_Kv ?_)
            clear hz165 hz167
            refine h_pop (pc' := 601) rfl rfl rfl ?_
            refine h_goto (pc' := 1441) rfl rfl ?_
            exact kk _ I0 (by first | exact d_tape.le j0 (Int.le_antisymm (by omega) (by omega)) (by omega) (fun j => rfl) (fun j => rfl) | (exfalso; omega)) (Int.le_antisymm (by omega) (by omega)) j2 (g_ti.e j3 rfl) (g_SH.e j4 rfl rfl rfl rfl rfl rfl) (Int.le_antisymm (by omega) (by omega))
