set_option maxHeartbeats 100000000 in
theorem g_case_1309 {ns : Nat} (hns : ns ≤ 320) (s0 : h_S) (I0 : h_I s0) (j0 : d_tape s0 s0) (j1 : s0 64 4 = s0 98 16) (j2 : c_R true s0) (j3 : g_ti s0) (j4 : g_SH s0) (j5 : s0 90 2 = s0 98 29) (y3 : Int32) (b3 : Int) (hy3 : y3.toInt = b3) (hr : 0 ≤ b3 ∧ b3 + 5 ≤ ns) {Q : Option Value → h_S → Prop} (kk : ∀ τ, h_I τ → (d_tape τ τ) → (τ 64 4 = τ 98 16) → (c_R true τ) → (g_ti τ) → (g_SH τ) → (τ 90 2 = τ 98 29) → h_T g_P (g_Y ns) 225 1441 [(0, .ref 0), (1, .ref 9), (2, .ref 98), (3, .int y3)] [] τ Q) : h_T g_P (g_Y ns) 225 1309 [(0, .ref 0), (1, .ref 9), (2, .ref 98), (3, .int y3)] [] s0 Q := by
  have F0_ : h_F (fun _ _ => true) s0 s0 := h_F.rf
  have j0_ := j0.2
  have i0 := tf_64_1 I0
  have i1 := tf_98_11 I0
  have i2 := tf_64_4 I0
  have i3 := tf_98_16 I0
  have i4 := tf_90_2 I0
  have i5 := tf_98_29 I0
  refine h_aload_n (pc' := 1310) rfl rfl rfl ?_
  refine h_aload_n (pc' := 1311) rfl rfl rfl ?_
  refine h_iload_n (pc' := 1312) rfl rfl rfl ?_
  refine h_iconst (pc' := 1313) (x := (Int32.ofInt 1)) rfl rfl rfl ?_
  refine h_iadd (pc' := 1314) rfl rfl hy3 ci_1 rfl (by omega) (by omega) (fun z1 hz1 => ?_)
  refine h_iald (pc' := 1315) (v := s0 0 (b3 + 1)) rfl rfl rfl hz1 (by omega) (by omega) rfl (fun z2 hz2 => ?_)
  have tz2 := h_rgv hz2
  clear hz1
  refine h_aload_n (pc' := 1316) rfl rfl rfl ?_
  refine h_iload_n (pc' := 1317) rfl rfl rfl ?_
  refine h_iconst (pc' := 1318) (x := (Int32.ofInt 2)) rfl rfl rfl ?_
  refine h_iadd (pc' := 1319) rfl rfl hy3 ci_2 rfl (by omega) (by omega) (fun z3 hz3 => ?_)
  refine h_iald (pc' := 1320) (v := s0 0 (b3 + 2)) rfl rfl rfl hz3 (by omega) (by omega) rfl (fun z4 hz4 => ?_)
  have tz4 := h_rgv hz4
  clear hz3
  refine h_aload_n (pc' := 1321) rfl rfl rfl ?_
  refine h_iload_n (pc' := 1322) rfl rfl rfl ?_
  refine h_iconst (pc' := 1323) (x := (Int32.ofInt 3)) rfl rfl rfl ?_
  refine h_iadd (pc' := 1324) rfl rfl hy3 ci_3 rfl (by omega) (by omega) (fun z5 hz5 => ?_)
  refine h_iald (pc' := 1325) (v := s0 0 (b3 + 3)) rfl rfl rfl hz5 (by omega) (by omega) rfl (fun z6 hz6 => ?_)
  have tz6 := h_rgv hz6
  clear hz5
  refine h_call (sp := false) (pc' := 1328) (M := [(0, .ref 9), (1, .int z2), (2, .int z4), (3, .int z6)]) rfl rfl rfl rfl rfl rfl rfl rfl ?_
  refine h_iload_n (pc' := 1) rfl rfl rfl ?_
  refine h_calls (pc' := 4) (M := [(0, .int z2)]) rfl rfl rfl rfl rfl rfl ?_
  refine h_iload_n (pc' := 1) rfl rfl rfl ?_
  refine h_zlt (tg := 13) (pc' := 4) rfl rfl rfl hz2 (fun c7 => ?_) (fun c7 => ?_)
  · refine h_iconst (pc' := 14) (x := (Int32.ofInt 0)) rfl rfl rfl ?_
    refine h_zret rfl rfl ci_0 (by omega) (h_Kv ?_)
    refine h_zne (tg := 9) (pc' := 7) rfl rfl rfl ci_0 (fun c8 => absurd (Int.le_antisymm (by omega) (by omega)) c8) (fun c8 => ?_)
    refine h_iconst (pc' := 8) (x := (Int32.ofInt (-1))) rfl rfl rfl ?_
    refine h_iret rfl rfl (h_Kv ?_)
    clear hz2 hz4 hz6
    refine h_pop (pc' := 1329) rfl rfl rfl ?_
    refine h_aload_n (pc' := 1330) rfl rfl rfl ?_
    refine h_aload_n (pc' := 1331) rfl rfl rfl ?_
    refine h_iload_n (pc' := 1332) rfl rfl rfl ?_
    refine h_iconst (pc' := 1333) (x := (Int32.ofInt 1)) rfl rfl rfl ?_
    refine h_iadd (pc' := 1334) rfl rfl hy3 ci_1 rfl (by omega) (by omega) (fun z9 hz9 => ?_)
    refine h_iald (pc' := 1335) (v := s0 0 (b3 + 1)) rfl rfl rfl hz9 (by omega) (by omega) rfl (fun z10 hz10 => ?_)
    have tz10 := h_rgv hz10
    clear hz9
    refine h_aload_n (pc' := 1336) rfl rfl rfl ?_
    refine h_iload_n (pc' := 1337) rfl rfl rfl ?_
    refine h_iconst (pc' := 1338) (x := (Int32.ofInt 2)) rfl rfl rfl ?_
    refine h_iadd (pc' := 1339) rfl rfl hy3 ci_2 rfl (by omega) (by omega) (fun z11 hz11 => ?_)
    refine h_iald (pc' := 1340) (v := s0 0 (b3 + 2)) rfl rfl rfl hz11 (by omega) (by omega) rfl (fun z12 hz12 => ?_)
    have tz12 := h_rgv hz12
    clear hz11
    refine h_aload_n (pc' := 1341) rfl rfl rfl ?_
    refine h_iload_n (pc' := 1342) rfl rfl rfl ?_
    refine h_iconst (pc' := 1343) (x := (Int32.ofInt 3)) rfl rfl rfl ?_
    refine h_iadd (pc' := 1344) rfl rfl hy3 ci_3 rfl (by omega) (by omega) (fun z13 hz13 => ?_)
    refine h_iald (pc' := 1345) (v := s0 0 (b3 + 3)) rfl rfl rfl hz13 (by omega) (by omega) rfl (fun z14 hz14 => ?_)
    have tz14 := h_rgv hz14
    clear hz13
    refine h_call (sp := false) (pc' := 1348) (M := [(0, .ref 98), (1, .int z10), (2, .int z12), (3, .int z14)]) rfl rfl rfl rfl rfl rfl rfl rfl ?_
    refine h_iload_n (pc' := 1) rfl rfl rfl ?_
    refine h_i2l (pc' := 2) rfl rfl hz10 (fun z15 hz15 => ?_)
    refine h_lconst (pc' := 3) (x := (Int64.ofInt 0)) rfl rfl rfl ?_
    refine h_ldc2 (pc' := 6) (x := (Int64.ofInt 3)) rfl rfl rfl ?_
    refine h_calls (pc' := 9) (M := [(0, .long z15), (2, .long (Int64.ofInt 0)), (4, .long (Int64.ofInt 3))]) rfl rfl rfl rfl rfl rfl ?_
    refine h_lload_n (pc' := 1) rfl rfl rfl ?_
    refine h_lload_n (pc' := 2) rfl rfl rfl ?_
    refine h_lcmp (pc' := 3) rfl rfl hz15 cl_0 (fun z16 hz16 => ?_)
    refine h_zlt (tg := 17) (pc' := 6) rfl rfl rfl rfl (fun c17 => ?_) (fun c17 => absurd c17 (by omega))
    replace c17 := (h_lcr hz16).1 c17
    clear hz16
    refine h_iconst (pc' := 18) (x := (Int32.ofInt 0)) rfl rfl rfl ?_
    refine h_zret rfl rfl ci_0 (by omega) (h_Kv ?_)
    clear hz15
    refine h_zne (tg := 14) (pc' := 12) rfl rfl rfl ci_0 (fun c18 => absurd (Int.le_antisymm (by omega) (by omega)) c18) (fun c18 => ?_)
    refine h_iconst (pc' := 13) (x := (Int32.ofInt (-1))) rfl rfl rfl ?_
    refine h_iret rfl rfl (h_Kv ?_)
    clear hz10 hz12 hz14
    refine h_pop (pc' := 1349) rfl rfl rfl ?_
    refine h_goto (pc' := 1441) rfl rfl ?_
    exact kk _ I0 (by first | exact d_tape.le j0 (Int.le_antisymm (by omega) (by omega)) (by omega) (fun j => rfl) (fun j => rfl) | (exfalso; omega)) (Int.le_antisymm (by omega) (by omega)) j2 (g_ti.e j3 rfl) (g_SH.e j4 rfl rfl rfl rfl rfl rfl) (Int.le_antisymm (by omega) (by omega))
  · refine h_iload_n (pc' := 5) rfl rfl rfl ?_
    refine h_iconst (pc' := 6) (x := (Int32.ofInt 4)) rfl rfl rfl ?_
    refine h_cge (tg := 13) (pc' := 9) rfl rfl rfl hz2 ci_4 (fun c19 => ?_) (fun c19 => ?_)
    · refine h_iconst (pc' := 14) (x := (Int32.ofInt 0)) rfl rfl rfl ?_
      refine h_zret rfl rfl ci_0 (by omega) (h_Kv ?_)
      refine h_zne (tg := 9) (pc' := 7) rfl rfl rfl ci_0 (fun c20 => absurd (Int.le_antisymm (by omega) (by omega)) c20) (fun c20 => ?_)
      refine h_iconst (pc' := 8) (x := (Int32.ofInt (-1))) rfl rfl rfl ?_
      refine h_iret rfl rfl (h_Kv ?_)
      clear hz2 hz4 hz6
      refine h_pop (pc' := 1329) rfl rfl rfl ?_
      refine h_aload_n (pc' := 1330) rfl rfl rfl ?_
      refine h_aload_n (pc' := 1331) rfl rfl rfl ?_
      refine h_iload_n (pc' := 1332) rfl rfl rfl ?_
      refine h_iconst (pc' := 1333) (x := (Int32.ofInt 1)) rfl rfl rfl ?_
      refine h_iadd (pc' := 1334) rfl rfl hy3 ci_1 rfl (by omega) (by omega) (fun z21 hz21 => ?_)
      refine h_iald (pc' := 1335) (v := s0 0 (b3 + 1)) rfl rfl rfl hz21 (by omega) (by omega) rfl (fun z22 hz22 => ?_)
      have tz22 := h_rgv hz22
      clear hz21
      refine h_aload_n (pc' := 1336) rfl rfl rfl ?_
      refine h_iload_n (pc' := 1337) rfl rfl rfl ?_
      refine h_iconst (pc' := 1338) (x := (Int32.ofInt 2)) rfl rfl rfl ?_
      refine h_iadd (pc' := 1339) rfl rfl hy3 ci_2 rfl (by omega) (by omega) (fun z23 hz23 => ?_)
      refine h_iald (pc' := 1340) (v := s0 0 (b3 + 2)) rfl rfl rfl hz23 (by omega) (by omega) rfl (fun z24 hz24 => ?_)
      have tz24 := h_rgv hz24
      clear hz23
      refine h_aload_n (pc' := 1341) rfl rfl rfl ?_
      refine h_iload_n (pc' := 1342) rfl rfl rfl ?_
      refine h_iconst (pc' := 1343) (x := (Int32.ofInt 3)) rfl rfl rfl ?_
      refine h_iadd (pc' := 1344) rfl rfl hy3 ci_3 rfl (by omega) (by omega) (fun z25 hz25 => ?_)
      refine h_iald (pc' := 1345) (v := s0 0 (b3 + 3)) rfl rfl rfl hz25 (by omega) (by omega) rfl (fun z26 hz26 => ?_)
      have tz26 := h_rgv hz26
      clear hz25
      refine h_call (sp := false) (pc' := 1348) (M := [(0, .ref 98), (1, .int z22), (2, .int z24), (3, .int z26)]) rfl rfl rfl rfl rfl rfl rfl rfl ?_
      refine h_iload_n (pc' := 1) rfl rfl rfl ?_
      refine h_i2l (pc' := 2) rfl rfl hz22 (fun z27 hz27 => ?_)
      refine h_lconst (pc' := 3) (x := (Int64.ofInt 0)) rfl rfl rfl ?_
      refine h_ldc2 (pc' := 6) (x := (Int64.ofInt 3)) rfl rfl rfl ?_
      refine h_calls (pc' := 9) (M := [(0, .long z27), (2, .long (Int64.ofInt 0)), (4, .long (Int64.ofInt 3))]) rfl rfl rfl rfl rfl rfl ?_
      refine h_lload_n (pc' := 1) rfl rfl rfl ?_
      refine h_lload_n (pc' := 2) rfl rfl rfl ?_
      refine h_lcmp (pc' := 3) rfl rfl hz27 cl_0 (fun z28 hz28 => ?_)
      refine h_zlt (tg := 17) (pc' := 6) rfl rfl rfl rfl (fun c29 => absurd c29 (by omega)) (fun c29 => ?_)
      replace c29 := (h_lcr hz28).2.1 c29
      clear hz28
      refine h_lload_n (pc' := 7) rfl rfl rfl ?_
      refine h_lload (pc' := 9) rfl rfl rfl ?_
      refine h_lcmp (pc' := 10) rfl rfl hz27 cl_3 (fun z30 hz30 => ?_)
      refine h_zgt (tg := 17) (pc' := 13) rfl rfl rfl rfl (fun c31 => ?_) (fun c31 => absurd c31 (by omega))
      replace c31 := (h_lcr hz30).2.2.2.1 c31
      clear hz30
      refine h_iconst (pc' := 18) (x := (Int32.ofInt 0)) rfl rfl rfl ?_
      refine h_zret rfl rfl ci_0 (by omega) (h_Kv ?_)
      clear hz27
      refine h_zne (tg := 14) (pc' := 12) rfl rfl rfl ci_0 (fun c32 => absurd (Int.le_antisymm (by omega) (by omega)) c32) (fun c32 => ?_)
      refine h_iconst (pc' := 13) (x := (Int32.ofInt (-1))) rfl rfl rfl ?_
      refine h_iret rfl rfl (h_Kv ?_)
      clear hz22 hz24 hz26
      refine h_pop (pc' := 1349) rfl rfl rfl ?_
      refine h_goto (pc' := 1441) rfl rfl ?_
      exact kk _ I0 (by first | exact d_tape.le j0 (Int.le_antisymm (by omega) (by omega)) (by omega) (fun j => rfl) (fun j => rfl) | (exfalso; omega)) (Int.le_antisymm (by omega) (by omega)) j2 (g_ti.e j3 rfl) (g_SH.e j4 rfl rfl rfl rfl rfl rfl) (Int.le_antisymm (by omega) (by omega))
    · refine h_iconst (pc' := 10) (x := (Int32.ofInt 1)) rfl rfl rfl ?_
      refine h_goto (pc' := 14) rfl rfl ?_
      refine h_zret rfl rfl ci_1 (by omega) (h_Kv ?_)
      refine h_zne (tg := 9) (pc' := 7) rfl rfl rfl ci_1 (fun c33 => ?_) (fun c33 => absurd c33 (by omega))
      refine h_aload_n (pc' := 10) rfl rfl rfl ?_
      refine h_getR (pc' := 13) rfl rfl rfl rfl rfl ?_
      refine h_iload_n (pc' := 14) rfl rfl rfl ?_
      refine h_aload_n (pc' := 15) rfl rfl rfl ?_
      refine h_getR (pc' := 18) rfl rfl rfl rfl rfl ?_
      refine h_getR (pc' := 21) rfl rfl rfl rfl rfl ?_
      refine h_iload_n (pc' := 22) rfl rfl rfl ?_
      refine h_iald (pc' := 23) (v := s0 95 (s0 0 (b3 + 1))) rfl rfl rfl hz2 (by omega) (by omega) rfl (fun z34 hz34 => ?_)
      have tz34 := ty_95 I0 (s0 0 (b3 + 1))
      refine h_iload_n (pc' := 24) rfl rfl rfl ?_
      refine h_call (sp := false) (pc' := 27) (M := [(0, .ref 93), (1, .int z2), (2, .int z34), (3, .int z4)]) rfl rfl rfl rfl rfl rfl rfl rfl ?_
      refine h_aload_n (pc' := 1) rfl rfl rfl ?_
      refine h_getR (pc' := 4) rfl rfl rfl rfl rfl ?_
      refine h_iload_n (pc' := 5) rfl rfl rfl ?_
      refine h_iald (pc' := 6) (v := s0 96 (s0 0 (b3 + 1))) rfl rfl rfl hz2 (by omega) (by omega) rfl (fun z35 hz35 => ?_)
      have tz35 := ty_96 I0 (s0 0 (b3 + 1))
      refine h_bipush (pc' := 8) (x := (Int32.ofInt (-4))) rfl rfl cb_m4 ?_
      refine h_cne (tg := 13) (pc' := 11) rfl rfl rfl hz35 ci_m4 (fun c36 => ?_) (fun c36 => ?_)
      · clear hz35
        refine h_aload_n (pc' := 14) rfl rfl rfl ?_
        refine h_getR (pc' := 17) rfl rfl rfl rfl rfl ?_
        refine h_iload_n (pc' := 18) rfl rfl rfl ?_
        refine h_iald (pc' := 19) (v := s0 95 (s0 0 (b3 + 1))) rfl rfl rfl hz2 (by omega) (by omega) rfl (fun z37 hz37 => ?_)
        refine h_iload_n (pc' := 20) rfl rfl rfl ?_
        refine h_ceq (tg := 25) (pc' := 23) rfl rfl rfl hz37 hz34 (fun c38 => ?_) (fun c38 => absurd (Int.le_antisymm (by omega) (by omega)) c38)
        clear hz37
        refine h_iload_n (pc' := 26) rfl rfl rfl ?_
        refine h_zlt (tg := 43) (pc' := 29) rfl rfl rfl hz4 (fun c39 => ?_) (fun c39 => ?_)
        · refine h_iconst (pc' := 44) (x := (Int32.ofInt 2)) rfl rfl rfl ?_
          refine h_iret rfl rfl (h_Kv ?_)
          clear hz34
          refine h_istore (pc' := 29) (M := [(4, .int (Int32.ofInt 2)), (0, .ref 9), (1, .int z2), (2, .int z4), (3, .int z6)]) rfl rfl rfl rfl ?_
          refine h_iload (pc' := 31) rfl rfl rfl ?_
          refine h_zeq (tg := 40) (pc' := 34) rfl rfl rfl ci_2 (fun c40 => absurd c40 (by omega)) (fun c40 => ?_)
          refine h_bipush (pc' := 36) (x := (Int32.ofInt (-10))) rfl rfl cb_m10 ?_
          refine h_iload (pc' := 38) rfl rfl rfl ?_
          refine h_isub (pc' := 39) (c := (-12)) rfl rfl ci_m10 ci_2 rfl (by omega) (by omega) (fun z41 hz41 => ?_)
          refine h_iret rfl rfl (h_Kv ?_)
          clear hz2 hz4 hz6
          refine h_pop (pc' := 1329) rfl rfl rfl ?_
          clear hz41
          refine h_aload_n (pc' := 1330) rfl rfl rfl ?_
          refine h_aload_n (pc' := 1331) rfl rfl rfl ?_
          refine h_iload_n (pc' := 1332) rfl rfl rfl ?_
          refine h_iconst (pc' := 1333) (x := (Int32.ofInt 1)) rfl rfl rfl ?_
          refine h_iadd (pc' := 1334) rfl rfl hy3 ci_1 rfl (by omega) (by omega) (fun z42 hz42 => ?_)
          refine h_iald (pc' := 1335) (v := s0 0 (b3 + 1)) rfl rfl rfl hz42 (by omega) (by omega) rfl (fun z43 hz43 => ?_)
          have tz43 := h_rgv hz43
          clear hz42
          refine h_aload_n (pc' := 1336) rfl rfl rfl ?_
          refine h_iload_n (pc' := 1337) rfl rfl rfl ?_
          refine h_iconst (pc' := 1338) (x := (Int32.ofInt 2)) rfl rfl rfl ?_
          refine h_iadd (pc' := 1339) rfl rfl hy3 ci_2 rfl (by omega) (by omega) (fun z44 hz44 => ?_)
          refine h_iald (pc' := 1340) (v := s0 0 (b3 + 2)) rfl rfl rfl hz44 (by omega) (by omega) rfl (fun z45 hz45 => ?_)
          have tz45 := h_rgv hz45
          clear hz44
          refine h_aload_n (pc' := 1341) rfl rfl rfl ?_
          refine h_iload_n (pc' := 1342) rfl rfl rfl ?_
          refine h_iconst (pc' := 1343) (x := (Int32.ofInt 3)) rfl rfl rfl ?_
          refine h_iadd (pc' := 1344) rfl rfl hy3 ci_3 rfl (by omega) (by omega) (fun z46 hz46 => ?_)
          refine h_iald (pc' := 1345) (v := s0 0 (b3 + 3)) rfl rfl rfl hz46 (by omega) (by omega) rfl (fun z47 hz47 => ?_)
          have tz47 := h_rgv hz47
          clear hz46
          refine h_call (sp := false) (pc' := 1348) (M := [(0, .ref 98), (1, .int z43), (2, .int z45), (3, .int z47)]) rfl rfl rfl rfl rfl rfl rfl rfl ?_
          refine h_iload_n (pc' := 1) rfl rfl rfl ?_
          refine h_i2l (pc' := 2) rfl rfl hz43 (fun z48 hz48 => ?_)
          refine h_lconst (pc' := 3) (x := (Int64.ofInt 0)) rfl rfl rfl ?_
          refine h_ldc2 (pc' := 6) (x := (Int64.ofInt 3)) rfl rfl rfl ?_
          refine h_calls (pc' := 9) (M := [(0, .long z48), (2, .long (Int64.ofInt 0)), (4, .long (Int64.ofInt 3))]) rfl rfl rfl rfl rfl rfl ?_
          refine h_lload_n (pc' := 1) rfl rfl rfl ?_
          refine h_lload_n (pc' := 2) rfl rfl rfl ?_
          refine h_lcmp (pc' := 3) rfl rfl hz48 cl_0 (fun z49 hz49 => ?_)
          refine h_zlt (tg := 17) (pc' := 6) rfl rfl rfl rfl (fun c50 => absurd c50 (by omega)) (fun c50 => ?_)
          replace c50 := (h_lcr hz49).2.1 c50
          clear hz49
          refine h_lload_n (pc' := 7) rfl rfl rfl ?_
          refine h_lload (pc' := 9) rfl rfl rfl ?_
          refine h_lcmp (pc' := 10) rfl rfl hz48 cl_3 (fun z51 hz51 => ?_)
          refine h_zgt (tg := 17) (pc' := 13) rfl rfl rfl rfl (fun c52 => absurd c52 (by omega)) (fun c52 => ?_)
          replace c52 := (h_lcr hz51).2.2.1 c52
          clear hz51
          refine h_iconst (pc' := 14) (x := (Int32.ofInt 1)) rfl rfl rfl ?_
          refine h_goto (pc' := 18) rfl rfl ?_
          refine h_zret rfl rfl ci_1 (by omega) (h_Kv ?_)
          clear hz48
          refine h_zne (tg := 14) (pc' := 12) rfl rfl rfl ci_1 (fun c53 => ?_) (fun c53 => absurd c53 (by omega))
          refine h_aload_n (pc' := 15) rfl rfl rfl ?_
          refine h_getR (pc' := 18) rfl rfl rfl rfl rfl ?_
          refine h_iload_n (pc' := 19) rfl rfl rfl ?_
          refine h_iald (pc' := 20) (v := s0 111 (s0 0 (b3 + 1))) rfl rfl rfl hz43 (by omega) (by omega) rfl (fun z54 hz54 => ?_)
          have tz54 := ty_111 I0 (s0 0 (b3 + 1))
          refine h_bipush (pc' := 22) (x := (Int32.ofInt (-4))) rfl rfl cb_m4 ?_
          refine h_cne (tg := 28) (pc' := 25) rfl rfl rfl hz54 ci_m4 (fun c55 => ?_) (fun c55 => ?_)
          · clear hz54
            refine h_iload_n (pc' := 29) rfl rfl rfl ?_
            refine h_i2l (pc' := 30) rfl rfl hz45 (fun z56 hz56 => ?_)
            refine h_lconst (pc' := 31) (x := (Int64.ofInt 0)) rfl rfl rfl ?_
            refine h_aload_n (pc' := 32) rfl rfl rfl ?_
            refine h_getR (pc' := 35) rfl rfl rfl rfl rfl ?_
            refine h_iload_n (pc' := 36) rfl rfl rfl ?_
            refine h_iald (pc' := 37) (v := s0 112 (s0 0 (b3 + 1))) rfl rfl rfl hz43 (by omega) (by omega) rfl (fun z57 hz57 => ?_)
            have tz57 := ty_112 I0 (s0 0 (b3 + 1))
            refine h_iconst (pc' := 38) (x := (Int32.ofInt 1)) rfl rfl rfl ?_
            refine h_isub (pc' := 39) rfl rfl hz57 ci_1 rfl (by omega) (by omega) (fun z58 hz58 => ?_)
            clear hz57
            refine h_i2l (pc' := 40) rfl rfl hz58 (fun z59 hz59 => ?_)
            clear hz58
            refine h_calls (pc' := 43) (M := [(0, .long z56), (2, .long (Int64.ofInt 0)), (4, .long z59)]) rfl rfl rfl rfl rfl rfl ?_
            refine h_lload_n (pc' := 1) rfl rfl rfl ?_
            refine h_lload_n (pc' := 2) rfl rfl rfl ?_
            refine h_lcmp (pc' := 3) rfl rfl hz56 cl_0 (fun z60 hz60 => ?_)
            refine h_zlt (tg := 17) (pc' := 6) rfl rfl rfl rfl (fun c61 => ?_) (fun c61 => absurd c61 (by omega))
            replace c61 := (h_lcr hz60).1 c61
            clear hz60
            refine h_iconst (pc' := 18) (x := (Int32.ofInt 0)) rfl rfl rfl ?_
            refine h_zret rfl rfl ci_0 (by omega) (h_Kv ?_)
            clear hz56 hz59
            refine h_zne (tg := 49) (pc' := 46) rfl rfl rfl ci_0 (fun c62 => absurd (Int.le_antisymm (by omega) (by omega)) c62) (fun c62 => ?_)
            refine h_bipush (pc' := 48) (x := (Int32.ofInt (-12))) rfl rfl cb_m12 ?_
            refine h_iret rfl rfl (h_Kv ?_)
            clear hz43 hz45 hz47
            refine h_pop (pc' := 1349) rfl rfl rfl ?_
            refine h_goto (pc' := 1441) rfl rfl ?_
            exact kk _ I0 (by first | exact d_tape.le j0 (Int.le_antisymm (by omega) (by omega)) (by omega) (fun j => rfl) (fun j => rfl) | (exfalso; omega)) (Int.le_antisymm (by omega) (by omega)) j2 (g_ti.e j3 rfl) (g_SH.e j4 rfl rfl rfl rfl rfl rfl) (Int.le_antisymm (by omega) (by omega))
          · clear hz54
            refine h_bipush (pc' := 27) (x := (Int32.ofInt (-11))) rfl rfl cb_m11 ?_
            refine h_iret rfl rfl (h_Kv ?_)
            clear hz43 hz45 hz47
            refine h_pop (pc' := 1349) rfl rfl rfl ?_
            refine h_goto (pc' := 1441) rfl rfl ?_
            exact kk _ I0 (by first | exact d_tape.le j0 (Int.le_antisymm (by omega) (by omega)) (by omega) (fun j => rfl) (fun j => rfl) | (exfalso; omega)) (Int.le_antisymm (by omega) (by omega)) j2 (g_ti.e j3 rfl) (g_SH.e j4 rfl rfl rfl rfl rfl rfl) (Int.le_antisymm (by omega) (by omega))
        · refine h_iload_n (pc' := 30) rfl rfl rfl ?_
          refine h_aload_n (pc' := 31) rfl rfl rfl ?_
          refine h_getR (pc' := 34) rfl rfl rfl rfl rfl ?_
          refine h_iload_n (pc' := 35) rfl rfl rfl ?_
          refine h_iald (pc' := 36) (v := s0 96 (s0 0 (b3 + 1))) rfl rfl rfl hz2 (by omega) (by omega) rfl (fun z63 hz63 => ?_)
          refine h_cge (tg := 43) (pc' := 39) rfl rfl rfl hz4 hz63 (fun c64 => ?_) (fun c64 => ?_)
          · clear hz63
            refine h_iconst (pc' := 44) (x := (Int32.ofInt 2)) rfl rfl rfl ?_
            refine h_iret rfl rfl (h_Kv ?_)
            clear hz34
            refine h_istore (pc' := 29) (M := [(4, .int (Int32.ofInt 2)), (0, .ref 9), (1, .int z2), (2, .int z4), (3, .int z6)]) rfl rfl rfl rfl ?_
            refine h_iload (pc' := 31) rfl rfl rfl ?_
            refine h_zeq (tg := 40) (pc' := 34) rfl rfl rfl ci_2 (fun c65 => absurd c65 (by omega)) (fun c65 => ?_)
            refine h_bipush (pc' := 36) (x := (Int32.ofInt (-10))) rfl rfl cb_m10 ?_
            refine h_iload (pc' := 38) rfl rfl rfl ?_
            refine h_isub (pc' := 39) (c := (-12)) rfl rfl ci_m10 ci_2 rfl (by omega) (by omega) (fun z66 hz66 => ?_)
            refine h_iret rfl rfl (h_Kv ?_)
            clear hz2 hz4 hz6
            refine h_pop (pc' := 1329) rfl rfl rfl ?_
            clear hz66
            refine h_aload_n (pc' := 1330) rfl rfl rfl ?_
            refine h_aload_n (pc' := 1331) rfl rfl rfl ?_
            refine h_iload_n (pc' := 1332) rfl rfl rfl ?_
            refine h_iconst (pc' := 1333) (x := (Int32.ofInt 1)) rfl rfl rfl ?_
            refine h_iadd (pc' := 1334) rfl rfl hy3 ci_1 rfl (by omega) (by omega) (fun z67 hz67 => ?_)
            refine h_iald (pc' := 1335) (v := s0 0 (b3 + 1)) rfl rfl rfl hz67 (by omega) (by omega) rfl (fun z68 hz68 => ?_)
            have tz68 := h_rgv hz68
            clear hz67
            refine h_aload_n (pc' := 1336) rfl rfl rfl ?_
            refine h_iload_n (pc' := 1337) rfl rfl rfl ?_
            refine h_iconst (pc' := 1338) (x := (Int32.ofInt 2)) rfl rfl rfl ?_
            refine h_iadd (pc' := 1339) rfl rfl hy3 ci_2 rfl (by omega) (by omega) (fun z69 hz69 => ?_)
            refine h_iald (pc' := 1340) (v := s0 0 (b3 + 2)) rfl rfl rfl hz69 (by omega) (by omega) rfl (fun z70 hz70 => ?_)
            have tz70 := h_rgv hz70
            clear hz69
            refine h_aload_n (pc' := 1341) rfl rfl rfl ?_
            refine h_iload_n (pc' := 1342) rfl rfl rfl ?_
            refine h_iconst (pc' := 1343) (x := (Int32.ofInt 3)) rfl rfl rfl ?_
            refine h_iadd (pc' := 1344) rfl rfl hy3 ci_3 rfl (by omega) (by omega) (fun z71 hz71 => ?_)
            refine h_iald (pc' := 1345) (v := s0 0 (b3 + 3)) rfl rfl rfl hz71 (by omega) (by omega) rfl (fun z72 hz72 => ?_)
            have tz72 := h_rgv hz72
            clear hz71
            refine h_call (sp := false) (pc' := 1348) (M := [(0, .ref 98), (1, .int z68), (2, .int z70), (3, .int z72)]) rfl rfl rfl rfl rfl rfl rfl rfl ?_
            refine h_iload_n (pc' := 1) rfl rfl rfl ?_
            refine h_i2l (pc' := 2) rfl rfl hz68 (fun z73 hz73 => ?_)
            refine h_lconst (pc' := 3) (x := (Int64.ofInt 0)) rfl rfl rfl ?_
            refine h_ldc2 (pc' := 6) (x := (Int64.ofInt 3)) rfl rfl rfl ?_
            refine h_calls (pc' := 9) (M := [(0, .long z73), (2, .long (Int64.ofInt 0)), (4, .long (Int64.ofInt 3))]) rfl rfl rfl rfl rfl rfl ?_
            refine h_lload_n (pc' := 1) rfl rfl rfl ?_
            refine h_lload_n (pc' := 2) rfl rfl rfl ?_
            refine h_lcmp (pc' := 3) rfl rfl hz73 cl_0 (fun z74 hz74 => ?_)
            refine h_zlt (tg := 17) (pc' := 6) rfl rfl rfl rfl (fun c75 => absurd c75 (by omega)) (fun c75 => ?_)
            replace c75 := (h_lcr hz74).2.1 c75
            clear hz74
            refine h_lload_n (pc' := 7) rfl rfl rfl ?_
            refine h_lload (pc' := 9) rfl rfl rfl ?_
            refine h_lcmp (pc' := 10) rfl rfl hz73 cl_3 (fun z76 hz76 => ?_)
            refine h_zgt (tg := 17) (pc' := 13) rfl rfl rfl rfl (fun c77 => absurd c77 (by omega)) (fun c77 => ?_)
            replace c77 := (h_lcr hz76).2.2.1 c77
            clear hz76
            refine h_iconst (pc' := 14) (x := (Int32.ofInt 1)) rfl rfl rfl ?_
            refine h_goto (pc' := 18) rfl rfl ?_
            refine h_zret rfl rfl ci_1 (by omega) (h_Kv ?_)
            clear hz73
            refine h_zne (tg := 14) (pc' := 12) rfl rfl rfl ci_1 (fun c78 => ?_) (fun c78 => absurd c78 (by omega))
            refine h_aload_n (pc' := 15) rfl rfl rfl ?_
            refine h_getR (pc' := 18) rfl rfl rfl rfl rfl ?_
            refine h_iload_n (pc' := 19) rfl rfl rfl ?_
            refine h_iald (pc' := 20) (v := s0 111 (s0 0 (b3 + 1))) rfl rfl rfl hz68 (by omega) (by omega) rfl (fun z79 hz79 => ?_)
            have tz79 := ty_111 I0 (s0 0 (b3 + 1))
            refine h_bipush (pc' := 22) (x := (Int32.ofInt (-4))) rfl rfl cb_m4 ?_
            refine h_cne (tg := 28) (pc' := 25) rfl rfl rfl hz79 ci_m4 (fun c80 => ?_) (fun c80 => ?_)
            · clear hz79
              refine h_iload_n (pc' := 29) rfl rfl rfl ?_
              refine h_i2l (pc' := 30) rfl rfl hz70 (fun z81 hz81 => ?_)
              refine h_lconst (pc' := 31) (x := (Int64.ofInt 0)) rfl rfl rfl ?_
              refine h_aload_n (pc' := 32) rfl rfl rfl ?_
              refine h_getR (pc' := 35) rfl rfl rfl rfl rfl ?_
              refine h_iload_n (pc' := 36) rfl rfl rfl ?_
              refine h_iald (pc' := 37) (v := s0 112 (s0 0 (b3 + 1))) rfl rfl rfl hz68 (by omega) (by omega) rfl (fun z82 hz82 => ?_)
              have tz82 := ty_112 I0 (s0 0 (b3 + 1))
              refine h_iconst (pc' := 38) (x := (Int32.ofInt 1)) rfl rfl rfl ?_
              refine h_isub (pc' := 39) rfl rfl hz82 ci_1 rfl (by omega) (by omega) (fun z83 hz83 => ?_)
              clear hz82
              refine h_i2l (pc' := 40) rfl rfl hz83 (fun z84 hz84 => ?_)
              clear hz83
              refine h_calls (pc' := 43) (M := [(0, .long z81), (2, .long (Int64.ofInt 0)), (4, .long z84)]) rfl rfl rfl rfl rfl rfl ?_
              refine h_lload_n (pc' := 1) rfl rfl rfl ?_
              refine h_lload_n (pc' := 2) rfl rfl rfl ?_
              refine h_lcmp (pc' := 3) rfl rfl hz81 cl_0 (fun z85 hz85 => ?_)
              refine h_zlt (tg := 17) (pc' := 6) rfl rfl rfl rfl (fun c86 => absurd c86 (by omega)) (fun c86 => ?_)
              replace c86 := (h_lcr hz85).2.1 c86
              clear hz85
              refine h_lload_n (pc' := 7) rfl rfl rfl ?_
              refine h_lload (pc' := 9) rfl rfl rfl ?_
              refine h_lcmp (pc' := 10) rfl rfl hz81 hz84 (fun z87 hz87 => ?_)
              refine h_zgt (tg := 17) (pc' := 13) rfl rfl rfl rfl (fun c88 => ?_) (fun c88 => ?_)
              · replace c88 := (h_lcr hz87).2.2.2.1 c88
                clear hz87
                refine h_iconst (pc' := 18) (x := (Int32.ofInt 0)) rfl rfl rfl ?_
                refine h_zret rfl rfl ci_0 (by omega) (h_Kv ?_)
                clear hz81 hz84
                refine h_zne (tg := 49) (pc' := 46) rfl rfl rfl ci_0 (fun c89 => absurd (Int.le_antisymm (by omega) (by omega)) c89) (fun c89 => ?_)
                refine h_bipush (pc' := 48) (x := (Int32.ofInt (-12))) rfl rfl cb_m12 ?_
                refine h_iret rfl rfl (h_Kv ?_)
                clear hz68 hz70 hz72
                refine h_pop (pc' := 1349) rfl rfl rfl ?_
                refine h_goto (pc' := 1441) rfl rfl ?_
                exact kk _ I0 (by first | exact d_tape.le j0 (Int.le_antisymm (by omega) (by omega)) (by omega) (fun j => rfl) (fun j => rfl) | (exfalso; omega)) (Int.le_antisymm (by omega) (by omega)) j2 (g_ti.e j3 rfl) (g_SH.e j4 rfl rfl rfl rfl rfl rfl) (Int.le_antisymm (by omega) (by omega))
              · replace c88 := (h_lcr hz87).2.2.1 c88
                clear hz87
                refine h_iconst (pc' := 14) (x := (Int32.ofInt 1)) rfl rfl rfl ?_
                refine h_goto (pc' := 18) rfl rfl ?_
                refine h_zret rfl rfl ci_1 (by omega) (h_Kv ?_)
                clear hz81 hz84
                refine h_zne (tg := 49) (pc' := 46) rfl rfl rfl ci_1 (fun c90 => ?_) (fun c90 => absurd c90 (by omega))
                refine h_aload_n (pc' := 50) rfl rfl rfl ?_
                refine h_getR (pc' := 53) rfl rfl rfl rfl rfl ?_
                refine h_bipush (pc' := 55) (x := (Int32.ofInt 40)) rfl rfl cb_40 ?_
                refine h_iload_n (pc' := 56) rfl rfl rfl ?_
                refine h_imul (pc' := 57) rfl rfl ci_40 hz68 rfl (by have g0 := h_rgv hz68; omega) (by have g0 := h_rgv hz68; omega) (fun z91 hz91 => ?_)
                refine h_iload_n (pc' := 58) rfl rfl rfl ?_
                refine h_iadd (pc' := 59) rfl rfl hz91 hz70 rfl (by have g0 := h_rgv hz70; omega) (by have g0 := h_rgv hz70; omega) (fun z92 hz92 => ?_)
                clear hz91
                refine h_aload_n (pc' := 60) rfl rfl rfl ?_
                refine h_getR (pc' := 63) rfl rfl rfl rfl rfl ?_
                refine h_iload_n (pc' := 64) rfl rfl rfl ?_
                refine h_iald (pc' := 65) (v := s0 111 (s0 0 (b3 + 1))) rfl rfl rfl hz68 (by omega) (by omega) rfl (fun z93 hz93 => ?_)
                refine h_zne (tg := 78) (pc' := 68) rfl rfl rfl hz93 (fun c94 => ?_) (fun c94 => ?_)
                · clear hz93
                  refine h_aload_n (pc' := 79) rfl rfl rfl ?_
                  refine h_getR (pc' := 82) rfl rfl rfl rfl rfl ?_
                  refine h_iload_n (pc' := 83) rfl rfl rfl ?_
                  refine h_iald (pc' := 84) (v := s0 111 (s0 0 (b3 + 1))) rfl rfl rfl hz68 (by omega) (by omega) rfl (fun z95 hz95 => ?_)
                  refine h_iconst (pc' := 85) (x := (Int32.ofInt 1)) rfl rfl rfl ?_
                  refine h_cne (tg := 98) (pc' := 88) rfl rfl rfl hz95 ci_1 (fun c96 => ?_) (fun c96 => ?_)
                  · clear hz95
                    refine h_iload_n (pc' := 99) rfl rfl rfl ?_
                    refine h_iast (pc' := 100) rfl rfl rfl rfl hz92 (by omega) (by omega) hz72 (h_fgt (E := fun s => s 64 1 = s0 64 1 ∧ s 98 11 = s0 98 11 ∧ s 64 4 = s0 64 4 ∧ s 98 16 = s0 98 16 ∧ s 90 2 = s0 90 2 ∧ s 98 29 = s0 98 29 ∧ s = h_up s0 113 ((40 * (s0 0 (b3 + 1))) + (s0 0 (b3 + 2))) (s0 0 (b3 + 3))) _ (in_113 I0 (h_rgv hz72)) (F0_.up rfl) ⟨rfl, rfl, rfl, rfl, rfl, rfl, rfl⟩ (fun s97 Is97 Fs97 (es97 : s97 64 1 = s0 64 1 ∧ s97 98 11 = s0 98 11 ∧ s97 64 4 = s0 64 4 ∧ s97 98 16 = s0 98 16 ∧ s97 90 2 = s0 90 2 ∧ s97 98 29 = s0 98 29 ∧ s97 = h_up s0 113 ((40 * (s0 0 (b3 + 1))) + (s0 0 (b3 + 2))) (s0 0 (b3 + 3))) => ?_))
                    have us97 := es97.2.2.2.2.2.2
                    have Zs97 : ∀ i, s97 0 i = s0 0 i := fun i => (h_upo us97 rfl i).trans rfl
                    clear hz92
                    refine h_iconst (pc' := 101) (x := (Int32.ofInt 1)) rfl rfl rfl ?_
                    refine h_iret rfl rfl (h_Kv ?_)
                    clear hz68 hz70 hz72
                    refine h_pop (pc' := 1349) rfl rfl rfl ?_
                    refine h_goto (pc' := 1441) rfl rfl ?_
                    exact kk _ Is97 (by first | exact d_tape.le j0 (Int.le_antisymm (by omega) (by omega)) (by omega) (fun j => (h_upo us97 rfl j)) (fun j => (h_upo us97 rfl j)) | (exfalso; omega)) (Int.le_antisymm (by omega) (by omega)) (c_R.up j2 I0 us97 rfl) (g_ti.e j3 (h_upg us97 rfl)) (by exfalso; have gm1_111 : s97 111 (s0 0 (b3 + 1)) = s0 111 (s0 0 (b3 + 1)) := (h_upo us97 rfl (s0 0 (b3 + 1))); have gm1_112 : s97 112 (s0 0 (b3 + 1)) = s0 112 (s0 0 (b3 + 1)) := (h_upo us97 rfl (s0 0 (b3 + 1))); have gk := g_SH.ar j4 (k := s0 0 (b3 + 1)) (by omega) (by omega); omega) (Int.le_antisymm (by omega) (by omega))
                  · clear hz95
                    refine h_iload_n (pc' := 89) rfl rfl rfl ?_
                    refine h_bipush (pc' := 91) (x := (Int32.ofInt 16)) rfl rfl cb_16 ?_
                    refine h_ishl (pc' := 92) rfl rfl (fun z98 hz98 => ?_)
                    have kkz98 := hz72
                    refine h_bipush (pc' := 94) (x := (Int32.ofInt 16)) rfl rfl cb_16 ?_
                    refine h_ishr (pc' := 95) rfl rfl (fun z99 hz99 => ?_)
                    refine h_goto (pc' := 99) rfl rfl ?_
                    refine h_iast (pc' := 100) rfl rfl rfl rfl hz92 (by omega) (by omega) rfl (h_fgt (E := fun s => s 64 1 = s0 64 1 ∧ s 98 11 = s0 98 11 ∧ s 64 4 = s0 64 4 ∧ s 98 16 = s0 98 16 ∧ s 90 2 = s0 90 2 ∧ s 98 29 = s0 98 29 ∧ s = h_up s0 113 ((40 * (s0 0 (b3 + 1))) + (s0 0 (b3 + 2))) z99.toInt) _ (in_113 I0 (h_rgv rfl)) (F0_.up rfl) ⟨rfl, rfl, rfl, rfl, rfl, rfl, rfl⟩ (fun s100 Is100 Fs100 (es100 : s100 64 1 = s0 64 1 ∧ s100 98 11 = s0 98 11 ∧ s100 64 4 = s0 64 4 ∧ s100 98 16 = s0 98 16 ∧ s100 90 2 = s0 90 2 ∧ s100 98 29 = s0 98 29 ∧ s100 = h_up s0 113 ((40 * (s0 0 (b3 + 1))) + (s0 0 (b3 + 2))) z99.toInt) => ?_))
                    have us100 := es100.2.2.2.2.2.2
                    have Zs100 : ∀ i, s100 0 i = s0 0 i := fun i => (h_upo us100 rfl i).trans rfl
                    clear hz92
                    refine h_iconst (pc' := 101) (x := (Int32.ofInt 1)) rfl rfl rfl ?_
                    refine h_iret rfl rfl (h_Kv ?_)
                    clear hz68 hz70 hz72
                    refine h_pop (pc' := 1349) rfl rfl rfl ?_
                    refine h_goto (pc' := 1441) rfl rfl ?_
                    exact kk _ Is100 (by first | exact d_tape.le j0 (Int.le_antisymm (by omega) (by omega)) (by omega) (fun j => (h_upo us100 rfl j)) (fun j => (h_upo us100 rfl j)) | (exfalso; omega)) (Int.le_antisymm (by omega) (by omega)) (c_R.up j2 I0 us100 rfl) (g_ti.e j3 (h_upg us100 rfl)) (by exfalso; have gm1_111 : s100 111 (s0 0 (b3 + 1)) = s0 111 (s0 0 (b3 + 1)) := (h_upo us100 rfl (s0 0 (b3 + 1))); have gm1_112 : s100 112 (s0 0 (b3 + 1)) = s0 112 (s0 0 (b3 + 1)) := (h_upo us100 rfl (s0 0 (b3 + 1))); have gk := g_SH.ar j4 (k := s0 0 (b3 + 1)) (by omega) (by omega); omega) (Int.le_antisymm (by omega) (by omega))
                · clear hz93
                  refine h_iload_n (pc' := 69) rfl rfl rfl ?_
                  refine h_bipush (pc' := 71) (x := (Int32.ofInt 24)) rfl rfl cb_24 ?_
                  refine h_ishl (pc' := 72) rfl rfl (fun z101 hz101 => ?_)
                  have kkz101 := hz72
                  refine h_bipush (pc' := 74) (x := (Int32.ofInt 24)) rfl rfl cb_24 ?_
                  refine h_ishr (pc' := 75) rfl rfl (fun z102 hz102 => ?_)
                  refine h_goto (pc' := 99) rfl rfl ?_
                  refine h_iast (pc' := 100) rfl rfl rfl rfl hz92 (by omega) (by omega) rfl (h_fgt (E := fun s => s 64 1 = s0 64 1 ∧ s 98 11 = s0 98 11 ∧ s 64 4 = s0 64 4 ∧ s 98 16 = s0 98 16 ∧ s 90 2 = s0 90 2 ∧ s 98 29 = s0 98 29 ∧ s = h_up s0 113 ((40 * (s0 0 (b3 + 1))) + (s0 0 (b3 + 2))) z102.toInt) _ (in_113 I0 (h_rgv rfl)) (F0_.up rfl) ⟨rfl, rfl, rfl, rfl, rfl, rfl, rfl⟩ (fun s103 Is103 Fs103 (es103 : s103 64 1 = s0 64 1 ∧ s103 98 11 = s0 98 11 ∧ s103 64 4 = s0 64 4 ∧ s103 98 16 = s0 98 16 ∧ s103 90 2 = s0 90 2 ∧ s103 98 29 = s0 98 29 ∧ s103 = h_up s0 113 ((40 * (s0 0 (b3 + 1))) + (s0 0 (b3 + 2))) z102.toInt) => ?_))
                  have us103 := es103.2.2.2.2.2.2
                  have Zs103 : ∀ i, s103 0 i = s0 0 i := fun i => (h_upo us103 rfl i).trans rfl
                  clear hz92
                  refine h_iconst (pc' := 101) (x := (Int32.ofInt 1)) rfl rfl rfl ?_
                  refine h_iret rfl rfl (h_Kv ?_)
                  clear hz68 hz70 hz72
                  refine h_pop (pc' := 1349) rfl rfl rfl ?_
                  refine h_goto (pc' := 1441) rfl rfl ?_
                  exact kk _ Is103 (by first | exact d_tape.le j0 (Int.le_antisymm (by omega) (by omega)) (by omega) (fun j => (h_upo us103 rfl j)) (fun j => (h_upo us103 rfl j)) | (exfalso; omega)) (Int.le_antisymm (by omega) (by omega)) (c_R.up j2 I0 us103 rfl) (g_ti.e j3 (h_upg us103 rfl)) (by exfalso; have gm1_111 : s103 111 (s0 0 (b3 + 1)) = s0 111 (s0 0 (b3 + 1)) := (h_upo us103 rfl (s0 0 (b3 + 1))); have gm1_112 : s103 112 (s0 0 (b3 + 1)) = s0 112 (s0 0 (b3 + 1)) := (h_upo us103 rfl (s0 0 (b3 + 1))); have gk := g_SH.ar j4 (k := s0 0 (b3 + 1)) (by omega) (by omega); omega) (Int.le_antisymm (by omega) (by omega))
            · clear hz79
              refine h_bipush (pc' := 27) (x := (Int32.ofInt (-11))) rfl rfl cb_m11 ?_
              refine h_iret rfl rfl (h_Kv ?_)
              clear hz68 hz70 hz72
              refine h_pop (pc' := 1349) rfl rfl rfl ?_
              refine h_goto (pc' := 1441) rfl rfl ?_
              exact kk _ I0 (by first | exact d_tape.le j0 (Int.le_antisymm (by omega) (by omega)) (by omega) (fun j => rfl) (fun j => rfl) | (exfalso; omega)) (Int.le_antisymm (by omega) (by omega)) j2 (g_ti.e j3 rfl) (g_SH.e j4 rfl rfl rfl rfl rfl rfl) (Int.le_antisymm (by omega) (by omega))
          · clear hz63
            refine h_iconst (pc' := 40) (x := (Int32.ofInt 0)) rfl rfl rfl ?_
            refine h_goto (pc' := 44) rfl rfl ?_
            refine h_iret rfl rfl (h_Kv ?_)
            clear hz34
            refine h_istore (pc' := 29) (M := [(4, .int (Int32.ofInt 0)), (0, .ref 9), (1, .int z2), (2, .int z4), (3, .int z6)]) rfl rfl rfl rfl ?_
            refine h_iload (pc' := 31) rfl rfl rfl ?_
            refine h_zeq (tg := 40) (pc' := 34) rfl rfl rfl ci_0 (fun c104 => ?_) (fun c104 => absurd (Int.le_antisymm (by omega) (by omega)) c104)
            refine h_aload_n (pc' := 41) rfl rfl rfl ?_
            refine h_getR (pc' := 44) rfl rfl rfl rfl rfl ?_
            refine h_iload_n (pc' := 45) rfl rfl rfl ?_
            refine h_iload_n (pc' := 46) rfl rfl rfl ?_
            refine h_iload_n (pc' := 47) rfl rfl rfl ?_
            refine h_call (sp := false) (pc' := 50) (M := [(0, .ref 93), (1, .int z2), (2, .int z4), (3, .int z6)]) rfl rfl rfl rfl rfl rfl rfl rfl ?_
            refine h_iload_n (pc' := 1) rfl rfl rfl ?_
            refine h_istore (pc' := 3) (M := [(4, .int z6), (0, .ref 93), (1, .int z2), (2, .int z4), (3, .int z6)]) rfl rfl rfl rfl ?_
            refine h_aload_n (pc' := 4) rfl rfl rfl ?_
            refine h_getR (pc' := 7) rfl rfl rfl rfl rfl ?_
            refine h_iload_n (pc' := 8) rfl rfl rfl ?_
            refine h_iald (pc' := 9) (v := s0 95 (s0 0 (b3 + 1))) rfl rfl rfl hz2 (by omega) (by omega) rfl (fun z105 hz105 => ?_)
            refine h_zne (tg := 19) (pc' := 12) rfl rfl rfl hz105 (fun c106 => ?_) (fun c106 => ?_)
            · clear hz105
              refine h_aload_n (pc' := 20) rfl rfl rfl ?_
              refine h_getR (pc' := 23) rfl rfl rfl rfl rfl ?_
              refine h_iload_n (pc' := 24) rfl rfl rfl ?_
              refine h_iald (pc' := 25) (v := s0 95 (s0 0 (b3 + 1))) rfl rfl rfl hz2 (by omega) (by omega) rfl (fun z107 hz107 => ?_)
              refine h_iconst (pc' := 26) (x := (Int32.ofInt 1)) rfl rfl rfl ?_
              refine h_cne (tg := 33) (pc' := 29) rfl rfl rfl hz107 ci_1 (fun c108 => ?_) (fun c108 => ?_)
              · clear hz107
                refine h_aload_n (pc' := 34) rfl rfl rfl ?_
                refine h_getR (pc' := 37) rfl rfl rfl rfl rfl ?_
                refine h_iload_n (pc' := 38) rfl rfl rfl ?_
                refine h_bipush (pc' := 40) (x := (Int32.ofInt 40)) rfl rfl cb_40 ?_
                refine h_imul (pc' := 41) rfl rfl hz2 ci_40 rfl (by have g0 := h_rgv hz2; omega) (by have g0 := h_rgv hz2; omega) (fun z109 hz109 => ?_)
                refine h_iload_n (pc' := 42) rfl rfl rfl ?_
                refine h_iadd (pc' := 43) rfl rfl hz109 hz4 rfl (by have g0 := h_rgv hz4; omega) (by have g0 := h_rgv hz4; omega) (fun z110 hz110 => ?_)
                clear hz109
                refine h_iload (pc' := 45) rfl rfl rfl ?_
                refine h_iast (pc' := 46) rfl rfl rfl rfl hz110 (by omega) (by omega) hz6 (h_fgt (E := fun s => s 64 1 = s0 64 1 ∧ s 98 11 = s0 98 11 ∧ s 64 4 = s0 64 4 ∧ s 98 16 = s0 98 16 ∧ s 90 2 = s0 90 2 ∧ s 98 29 = s0 98 29 ∧ s = h_up s0 94 (((s0 0 (b3 + 1)) * 40) + (s0 0 (b3 + 2))) (s0 0 (b3 + 3))) _ (in_94 I0 (h_rgv hz6)) (F0_.up rfl) ⟨rfl, rfl, rfl, rfl, rfl, rfl, rfl⟩ (fun s111 Is111 Fs111 (es111 : s111 64 1 = s0 64 1 ∧ s111 98 11 = s0 98 11 ∧ s111 64 4 = s0 64 4 ∧ s111 98 16 = s0 98 16 ∧ s111 90 2 = s0 90 2 ∧ s111 98 29 = s0 98 29 ∧ s111 = h_up s0 94 (((s0 0 (b3 + 1)) * 40) + (s0 0 (b3 + 2))) (s0 0 (b3 + 3))) => ?_))
                have us111 := es111.2.2.2.2.2.2
                have Zs111 : ∀ i, s111 0 i = s0 0 i := fun i => (h_upo us111 rfl i).trans rfl
                clear hz110
                refine h_vret rfl rfl (h_Kn ?_)
                refine h_iconst (pc' := 51) (x := (Int32.ofInt 1)) rfl rfl rfl ?_
                refine h_iret rfl rfl (h_Kv ?_)
                clear hz2 hz4 hz6
                refine h_pop (pc' := 1329) rfl rfl rfl ?_
                refine h_aload_n (pc' := 1330) rfl rfl rfl ?_
                refine h_aload_n (pc' := 1331) rfl rfl rfl ?_
                refine h_iload_n (pc' := 1332) rfl rfl rfl ?_
                refine h_iconst (pc' := 1333) (x := (Int32.ofInt 1)) rfl rfl rfl ?_
                refine h_iadd (pc' := 1334) rfl rfl hy3 ci_1 rfl (by omega) (by omega) (fun z112 hz112 => ?_)
                refine h_iald (pc' := 1335) (v := s0 0 (b3 + 1)) rfl rfl rfl hz112 (by omega) (by omega) (Zs111 _) (fun z113 hz113 => ?_)
                have tz113 := h_rgv hz113
                clear hz112
                refine h_aload_n (pc' := 1336) rfl rfl rfl ?_
                refine h_iload_n (pc' := 1337) rfl rfl rfl ?_
                refine h_iconst (pc' := 1338) (x := (Int32.ofInt 2)) rfl rfl rfl ?_
                refine h_iadd (pc' := 1339) rfl rfl hy3 ci_2 rfl (by omega) (by omega) (fun z114 hz114 => ?_)
                refine h_iald (pc' := 1340) (v := s0 0 (b3 + 2)) rfl rfl rfl hz114 (by omega) (by omega) (Zs111 _) (fun z115 hz115 => ?_)
                have tz115 := h_rgv hz115
                clear hz114
                refine h_aload_n (pc' := 1341) rfl rfl rfl ?_
                refine h_iload_n (pc' := 1342) rfl rfl rfl ?_
                refine h_iconst (pc' := 1343) (x := (Int32.ofInt 3)) rfl rfl rfl ?_
                refine h_iadd (pc' := 1344) rfl rfl hy3 ci_3 rfl (by omega) (by omega) (fun z116 hz116 => ?_)
                refine h_iald (pc' := 1345) (v := s0 0 (b3 + 3)) rfl rfl rfl hz116 (by omega) (by omega) (Zs111 _) (fun z117 hz117 => ?_)
                have tz117 := h_rgv hz117
                clear hz116
                refine h_call (sp := false) (pc' := 1348) (M := [(0, .ref 98), (1, .int z113), (2, .int z115), (3, .int z117)]) rfl rfl rfl rfl rfl rfl rfl rfl ?_
                refine h_iload_n (pc' := 1) rfl rfl rfl ?_
                refine h_i2l (pc' := 2) rfl rfl hz113 (fun z118 hz118 => ?_)
                refine h_lconst (pc' := 3) (x := (Int64.ofInt 0)) rfl rfl rfl ?_
                refine h_ldc2 (pc' := 6) (x := (Int64.ofInt 3)) rfl rfl rfl ?_
                refine h_calls (pc' := 9) (M := [(0, .long z118), (2, .long (Int64.ofInt 0)), (4, .long (Int64.ofInt 3))]) rfl rfl rfl rfl rfl rfl ?_
                refine h_lload_n (pc' := 1) rfl rfl rfl ?_
                refine h_lload_n (pc' := 2) rfl rfl rfl ?_
                refine h_lcmp (pc' := 3) rfl rfl hz118 cl_0 (fun z119 hz119 => ?_)
                refine h_zlt (tg := 17) (pc' := 6) rfl rfl rfl rfl (fun c120 => absurd c120 (by omega)) (fun c120 => ?_)
                replace c120 := (h_lcr hz119).2.1 c120
                clear hz119
                refine h_lload_n (pc' := 7) rfl rfl rfl ?_
                refine h_lload (pc' := 9) rfl rfl rfl ?_
                refine h_lcmp (pc' := 10) rfl rfl hz118 cl_3 (fun z121 hz121 => ?_)
                refine h_zgt (tg := 17) (pc' := 13) rfl rfl rfl rfl (fun c122 => absurd c122 (by omega)) (fun c122 => ?_)
                replace c122 := (h_lcr hz121).2.2.1 c122
                clear hz121
                refine h_iconst (pc' := 14) (x := (Int32.ofInt 1)) rfl rfl rfl ?_
                refine h_goto (pc' := 18) rfl rfl ?_
                refine h_zret rfl rfl ci_1 (by omega) (h_Kv ?_)
                clear hz118
                refine h_zne (tg := 14) (pc' := 12) rfl rfl rfl ci_1 (fun c123 => ?_) (fun c123 => absurd c123 (by omega))
                refine h_aload_n (pc' := 15) rfl rfl rfl ?_
                refine h_getR (pc' := 18) rfl rfl rfl rfl rfl ?_
                refine h_iload_n (pc' := 19) rfl rfl rfl ?_
                refine h_iald (pc' := 20) (v := s111 111 (s0 0 (b3 + 1))) rfl rfl rfl hz113 (by omega) (by omega) rfl (fun z124 hz124 => ?_)
                have tz124 := ty_111 Is111 (s0 0 (b3 + 1))
                refine h_bipush (pc' := 22) (x := (Int32.ofInt (-4))) rfl rfl cb_m4 ?_
                refine h_cne (tg := 28) (pc' := 25) rfl rfl rfl hz124 ci_m4 (fun c125 => ?_) (fun c125 => ?_)
                · clear hz124
                  refine h_iload_n (pc' := 29) rfl rfl rfl ?_
                  refine h_i2l (pc' := 30) rfl rfl hz115 (fun z126 hz126 => ?_)
                  refine h_lconst (pc' := 31) (x := (Int64.ofInt 0)) rfl rfl rfl ?_
                  refine h_aload_n (pc' := 32) rfl rfl rfl ?_
                  refine h_getR (pc' := 35) rfl rfl rfl rfl rfl ?_
                  refine h_iload_n (pc' := 36) rfl rfl rfl ?_
                  refine h_iald (pc' := 37) (v := s111 112 (s0 0 (b3 + 1))) rfl rfl rfl hz113 (by omega) (by omega) rfl (fun z127 hz127 => ?_)
                  have tz127 := ty_112 Is111 (s0 0 (b3 + 1))
                  refine h_iconst (pc' := 38) (x := (Int32.ofInt 1)) rfl rfl rfl ?_
                  refine h_isub (pc' := 39) rfl rfl hz127 ci_1 rfl (by omega) (by omega) (fun z128 hz128 => ?_)
                  clear hz127
                  refine h_i2l (pc' := 40) rfl rfl hz128 (fun z129 hz129 => ?_)
                  clear hz128
                  refine h_calls (pc' := 43) (M := [(0, .long z126), (2, .long (Int64.ofInt 0)), (4, .long z129)]) rfl rfl rfl rfl rfl rfl ?_
                  refine h_lload_n (pc' := 1) rfl rfl rfl ?_
                  refine h_lload_n (pc' := 2) rfl rfl rfl ?_
                  refine h_lcmp (pc' := 3) rfl rfl hz126 cl_0 (fun z130 hz130 => ?_)
                  refine h_zlt (tg := 17) (pc' := 6) rfl rfl rfl rfl (fun c131 => absurd c131 (by omega)) (fun c131 => ?_)
                  replace c131 := (h_lcr hz130).2.1 c131
                  clear hz130
                  refine h_lload_n (pc' := 7) rfl rfl rfl ?_
                  refine h_lload (pc' := 9) rfl rfl rfl ?_
                  refine h_lcmp (pc' := 10) rfl rfl hz126 hz129 (fun z132 hz132 => ?_)
                  refine h_zgt (tg := 17) (pc' := 13) rfl rfl rfl rfl (fun c133 => ?_) (fun c133 => ?_)
                  · replace c133 := (h_lcr hz132).2.2.2.1 c133
                    clear hz132
                    refine h_iconst (pc' := 18) (x := (Int32.ofInt 0)) rfl rfl rfl ?_
                    refine h_zret rfl rfl ci_0 (by omega) (h_Kv ?_)
                    clear hz126 hz129
                    refine h_zne (tg := 49) (pc' := 46) rfl rfl rfl ci_0 (fun c134 => absurd (Int.le_antisymm (by omega) (by omega)) c134) (fun c134 => ?_)
                    refine h_bipush (pc' := 48) (x := (Int32.ofInt (-12))) rfl rfl cb_m12 ?_
                    refine h_iret rfl rfl (h_Kv ?_)
                    clear hz113 hz115 hz117
                    refine h_pop (pc' := 1349) rfl rfl rfl ?_
                    refine h_goto (pc' := 1441) rfl rfl ?_
                    exact kk _ Is111 (by first | exact d_tape.le j0 (Int.le_antisymm (by omega) (by omega)) (by omega) (fun j => (h_upo us111 rfl j)) (fun j => (h_upo us111 rfl j)) | (exfalso; omega)) (Int.le_antisymm (by omega) (by omega)) (c_R.up j2 I0 us111 rfl) (g_ti.e j3 (h_upg us111 rfl)) (by exfalso; have gm1_111 : s111 111 (s0 0 (b3 + 1)) = s0 111 (s0 0 (b3 + 1)) := (h_upo us111 rfl (s0 0 (b3 + 1))); have gm1_112 : s111 112 (s0 0 (b3 + 1)) = s0 112 (s0 0 (b3 + 1)) := (h_upo us111 rfl (s0 0 (b3 + 1))); have gk := g_SH.ar j4 (k := s0 0 (b3 + 1)) (by omega) (by omega); omega) (Int.le_antisymm (by omega) (by omega))
                  · replace c133 := (h_lcr hz132).2.2.1 c133
                    clear hz132
                    refine h_iconst (pc' := 14) (x := (Int32.ofInt 1)) rfl rfl rfl ?_
                    refine h_goto (pc' := 18) rfl rfl ?_
                    refine h_zret rfl rfl ci_1 (by omega) (h_Kv ?_)
                    clear hz126 hz129
                    refine h_zne (tg := 49) (pc' := 46) rfl rfl rfl ci_1 (fun c135 => ?_) (fun c135 => absurd c135 (by omega))
                    refine h_aload_n (pc' := 50) rfl rfl rfl ?_
                    refine h_getR (pc' := 53) rfl rfl rfl rfl rfl ?_
                    refine h_bipush (pc' := 55) (x := (Int32.ofInt 40)) rfl rfl cb_40 ?_
                    refine h_iload_n (pc' := 56) rfl rfl rfl ?_
                    refine h_imul (pc' := 57) rfl rfl ci_40 hz113 rfl (by have g0 := h_rgv hz113; omega) (by have g0 := h_rgv hz113; omega) (fun z136 hz136 => ?_)
                    refine h_iload_n (pc' := 58) rfl rfl rfl ?_
                    refine h_iadd (pc' := 59) rfl rfl hz136 hz115 rfl (by have g0 := h_rgv hz115; omega) (by have g0 := h_rgv hz115; omega) (fun z137 hz137 => ?_)
                    clear hz136
                    refine h_aload_n (pc' := 60) rfl rfl rfl ?_
                    refine h_getR (pc' := 63) rfl rfl rfl rfl rfl ?_
                    refine h_iload_n (pc' := 64) rfl rfl rfl ?_
                    refine h_iald (pc' := 65) (v := s111 111 (s0 0 (b3 + 1))) rfl rfl rfl hz113 (by omega) (by omega) rfl (fun z138 hz138 => ?_)
                    refine h_zne (tg := 78) (pc' := 68) rfl rfl rfl hz138 (fun c139 => ?_) (fun c139 => ?_)
                    · clear hz138
                      refine h_aload_n (pc' := 79) rfl rfl rfl ?_
                      refine h_getR (pc' := 82) rfl rfl rfl rfl rfl ?_
                      refine h_iload_n (pc' := 83) rfl rfl rfl ?_
                      refine h_iald (pc' := 84) (v := s111 111 (s0 0 (b3 + 1))) rfl rfl rfl hz113 (by omega) (by omega) rfl (fun z140 hz140 => ?_)
                      refine h_iconst (pc' := 85) (x := (Int32.ofInt 1)) rfl rfl rfl ?_
                      refine h_cne (tg := 98) (pc' := 88) rfl rfl rfl hz140 ci_1 (fun c141 => ?_) (fun c141 => ?_)
                      · clear hz140
                        refine h_iload_n (pc' := 99) rfl rfl rfl ?_
                        refine h_iast (pc' := 100) rfl rfl rfl rfl hz137 (by omega) (by omega) hz117 (h_fgt (E := fun s => s 64 1 = s0 64 1 ∧ s 98 11 = s0 98 11 ∧ s 64 4 = s0 64 4 ∧ s 98 16 = s0 98 16 ∧ s 90 2 = s0 90 2 ∧ s 98 29 = s0 98 29 ∧ s = h_up s111 113 ((40 * (s0 0 (b3 + 1))) + (s0 0 (b3 + 2))) (s0 0 (b3 + 3))) _ (in_113 Is111 (h_rgv hz117)) (Fs111.up rfl) ⟨es111.1, es111.2.1, es111.2.2.1, es111.2.2.2.1, es111.2.2.2.2.1, es111.2.2.2.2.2.1, rfl⟩ (fun s142 Is142 Fs142 (es142 : s142 64 1 = s0 64 1 ∧ s142 98 11 = s0 98 11 ∧ s142 64 4 = s0 64 4 ∧ s142 98 16 = s0 98 16 ∧ s142 90 2 = s0 90 2 ∧ s142 98 29 = s0 98 29 ∧ s142 = h_up s111 113 ((40 * (s0 0 (b3 + 1))) + (s0 0 (b3 + 2))) (s0 0 (b3 + 3))) => ?_))
                        clear es111
                        have us142 := es142.2.2.2.2.2.2
                        have Zs142 : ∀ i, s142 0 i = s0 0 i := fun i => (h_upo us142 rfl i).trans (Zs111 i)
                        clear hz137
                        refine h_iconst (pc' := 101) (x := (Int32.ofInt 1)) rfl rfl rfl ?_
                        refine h_iret rfl rfl (h_Kv ?_)
                        clear hz113 hz115 hz117
                        refine h_pop (pc' := 1349) rfl rfl rfl ?_
                        refine h_goto (pc' := 1441) rfl rfl ?_
                        exact kk _ Is142 (by first | exact d_tape.le j0 (Int.le_antisymm (by omega) (by omega)) (by omega) (fun j => (h_upo us142 rfl j).trans ((h_upo us111 rfl j))) (fun j => (h_upo us142 rfl j).trans ((h_upo us111 rfl j))) | (exfalso; omega)) (Int.le_antisymm (by omega) (by omega)) (c_R.up (c_R.up j2 I0 us111 rfl) Is111 us142 rfl) (g_ti.e j3 ((h_upg us142 rfl).trans (h_upg us111 rfl))) (by have gm1_111 : s111 111 (s0 0 (b3 + 1)) = s0 111 (s0 0 (b3 + 1)) := (h_upo us111 rfl (s0 0 (b3 + 1))); have gm1_112 : s111 112 (s0 0 (b3 + 1)) = s0 112 (s0 0 (b3 + 1)) := (h_upo us111 rfl (s0 0 (b3 + 1))); have gm2_111 : s142 111 (s0 0 (b3 + 1)) = s0 111 (s0 0 (b3 + 1)) := ((h_upo us142 rfl (s0 0 (b3 + 1))).trans (h_upo us111 rfl (s0 0 (b3 + 1)))); have gm2_112 : s142 112 (s0 0 (b3 + 1)) = s0 112 (s0 0 (b3 + 1)) := ((h_upo us142 rfl (s0 0 (b3 + 1))).trans (h_upo us111 rfl (s0 0 (b3 + 1)))); have gk := g_SH.ar j4 (k := s0 0 (b3 + 1)) (by omega) (by omega); first | exact g_SH.lay j4 (k := s0 0 (b3 + 1)) (i := s0 0 (b3 + 2)) (by omega) (by omega) (by omega) (by omega) (fun j _ _ => (ty_96 I0 j).2.1) (by omega) (((h_upg us142 rfl).trans ((h_upf us111).trans (g_set_c rfl))).trans (g_set_e rfl (by omega) rfl)) ((h_upg us142 rfl).trans (h_upg us111 rfl)) ((h_upg us142 rfl).trans (h_upg us111 rfl)) ((h_upg us142 rfl).trans (h_upg us111 rfl)) ((h_upg us142 rfl).trans (h_upg us111 rfl)) ((rfl.trans ((h_upf us142).trans (g_set_c (h_upg us111 rfl)))).trans (g_set_e rfl (by omega) rfl)) | (exfalso; omega)) (Int.le_antisymm (by omega) (by omega))
                      · clear hz140
                        refine h_iload_n (pc' := 89) rfl rfl rfl ?_
                        refine h_bipush (pc' := 91) (x := (Int32.ofInt 16)) rfl rfl cb_16 ?_
                        refine h_ishl (pc' := 92) rfl rfl (fun z143 hz143 => ?_)
                        have kkz143 := hz117
                        refine h_bipush (pc' := 94) (x := (Int32.ofInt 16)) rfl rfl cb_16 ?_
                        refine h_ishr (pc' := 95) rfl rfl (fun z144 hz144 => ?_)
                        refine h_goto (pc' := 99) rfl rfl ?_
                        refine h_iast (pc' := 100) rfl rfl rfl rfl hz137 (by omega) (by omega) rfl (h_fgt (E := fun s => s 64 1 = s0 64 1 ∧ s 98 11 = s0 98 11 ∧ s 64 4 = s0 64 4 ∧ s 98 16 = s0 98 16 ∧ s 90 2 = s0 90 2 ∧ s 98 29 = s0 98 29 ∧ s = h_up s111 113 ((40 * (s0 0 (b3 + 1))) + (s0 0 (b3 + 2))) z144.toInt) _ (in_113 Is111 (h_rgv rfl)) (Fs111.up rfl) ⟨es111.1, es111.2.1, es111.2.2.1, es111.2.2.2.1, es111.2.2.2.2.1, es111.2.2.2.2.2.1, rfl⟩ (fun s145 Is145 Fs145 (es145 : s145 64 1 = s0 64 1 ∧ s145 98 11 = s0 98 11 ∧ s145 64 4 = s0 64 4 ∧ s145 98 16 = s0 98 16 ∧ s145 90 2 = s0 90 2 ∧ s145 98 29 = s0 98 29 ∧ s145 = h_up s111 113 ((40 * (s0 0 (b3 + 1))) + (s0 0 (b3 + 2))) z144.toInt) => ?_))
                        clear es111
                        have us145 := es145.2.2.2.2.2.2
                        have Zs145 : ∀ i, s145 0 i = s0 0 i := fun i => (h_upo us145 rfl i).trans (Zs111 i)
                        clear hz137
                        refine h_iconst (pc' := 101) (x := (Int32.ofInt 1)) rfl rfl rfl ?_
                        refine h_iret rfl rfl (h_Kv ?_)
                        clear hz113 hz115 hz117
                        refine h_pop (pc' := 1349) rfl rfl rfl ?_
                        refine h_goto (pc' := 1441) rfl rfl ?_
                        exact kk _ Is145 (by first | exact d_tape.le j0 (Int.le_antisymm (by omega) (by omega)) (by omega) (fun j => (h_upo us145 rfl j).trans ((h_upo us111 rfl j))) (fun j => (h_upo us145 rfl j).trans ((h_upo us111 rfl j))) | (exfalso; omega)) (Int.le_antisymm (by omega) (by omega)) (c_R.up (c_R.up j2 I0 us111 rfl) Is111 us145 rfl) (g_ti.e j3 ((h_upg us145 rfl).trans (h_upg us111 rfl))) (by have gm1_111 : s111 111 (s0 0 (b3 + 1)) = s0 111 (s0 0 (b3 + 1)) := (h_upo us111 rfl (s0 0 (b3 + 1))); have gm1_112 : s111 112 (s0 0 (b3 + 1)) = s0 112 (s0 0 (b3 + 1)) := (h_upo us111 rfl (s0 0 (b3 + 1))); have gm2_111 : s145 111 (s0 0 (b3 + 1)) = s0 111 (s0 0 (b3 + 1)) := ((h_upo us145 rfl (s0 0 (b3 + 1))).trans (h_upo us111 rfl (s0 0 (b3 + 1)))); have gm2_112 : s145 112 (s0 0 (b3 + 1)) = s0 112 (s0 0 (b3 + 1)) := ((h_upo us145 rfl (s0 0 (b3 + 1))).trans (h_upo us111 rfl (s0 0 (b3 + 1)))); have gk := g_SH.ar j4 (k := s0 0 (b3 + 1)) (by omega) (by omega); first | exact g_SH.lay j4 (k := s0 0 (b3 + 1)) (i := s0 0 (b3 + 2)) (by omega) (by omega) (by omega) (by omega) (fun j _ _ => (ty_96 I0 j).2.1) (by exfalso; omega) (((h_upg us145 rfl).trans ((h_upf us111).trans (g_set_c rfl))).trans (g_set_e rfl (by omega) rfl)) ((h_upg us145 rfl).trans (h_upg us111 rfl)) ((h_upg us145 rfl).trans (h_upg us111 rfl)) ((h_upg us145 rfl).trans (h_upg us111 rfl)) ((h_upg us145 rfl).trans (h_upg us111 rfl)) ((rfl.trans ((h_upf us145).trans (g_set_c (h_upg us111 rfl)))).trans (g_set_e rfl (by omega) rfl)) | (exfalso; omega)) (Int.le_antisymm (by omega) (by omega))
                    · clear hz138
                      refine h_iload_n (pc' := 69) rfl rfl rfl ?_
                      refine h_bipush (pc' := 71) (x := (Int32.ofInt 24)) rfl rfl cb_24 ?_
                      refine h_ishl (pc' := 72) rfl rfl (fun z146 hz146 => ?_)
                      have kkz146 := hz117
                      refine h_bipush (pc' := 74) (x := (Int32.ofInt 24)) rfl rfl cb_24 ?_
                      refine h_ishr (pc' := 75) rfl rfl (fun z147 hz147 => ?_)
                      refine h_goto (pc' := 99) rfl rfl ?_
                      refine h_iast (pc' := 100) rfl rfl rfl rfl hz137 (by omega) (by omega) rfl (h_fgt (E := fun s => s 64 1 = s0 64 1 ∧ s 98 11 = s0 98 11 ∧ s 64 4 = s0 64 4 ∧ s 98 16 = s0 98 16 ∧ s 90 2 = s0 90 2 ∧ s 98 29 = s0 98 29 ∧ s = h_up s111 113 ((40 * (s0 0 (b3 + 1))) + (s0 0 (b3 + 2))) z147.toInt) _ (in_113 Is111 (h_rgv rfl)) (Fs111.up rfl) ⟨es111.1, es111.2.1, es111.2.2.1, es111.2.2.2.1, es111.2.2.2.2.1, es111.2.2.2.2.2.1, rfl⟩ (fun s148 Is148 Fs148 (es148 : s148 64 1 = s0 64 1 ∧ s148 98 11 = s0 98 11 ∧ s148 64 4 = s0 64 4 ∧ s148 98 16 = s0 98 16 ∧ s148 90 2 = s0 90 2 ∧ s148 98 29 = s0 98 29 ∧ s148 = h_up s111 113 ((40 * (s0 0 (b3 + 1))) + (s0 0 (b3 + 2))) z147.toInt) => ?_))
                      clear es111
                      have us148 := es148.2.2.2.2.2.2
                      have Zs148 : ∀ i, s148 0 i = s0 0 i := fun i => (h_upo us148 rfl i).trans (Zs111 i)
                      clear hz137
                      refine h_iconst (pc' := 101) (x := (Int32.ofInt 1)) rfl rfl rfl ?_
                      refine h_iret rfl rfl (h_Kv ?_)
                      clear hz113 hz115 hz117
                      refine h_pop (pc' := 1349) rfl rfl rfl ?_
                      refine h_goto (pc' := 1441) rfl rfl ?_
                      exact kk _ Is148 (by first | exact d_tape.le j0 (Int.le_antisymm (by omega) (by omega)) (by omega) (fun j => (h_upo us148 rfl j).trans ((h_upo us111 rfl j))) (fun j => (h_upo us148 rfl j).trans ((h_upo us111 rfl j))) | (exfalso; omega)) (Int.le_antisymm (by omega) (by omega)) (c_R.up (c_R.up j2 I0 us111 rfl) Is111 us148 rfl) (g_ti.e j3 ((h_upg us148 rfl).trans (h_upg us111 rfl))) (by have gm1_111 : s111 111 (s0 0 (b3 + 1)) = s0 111 (s0 0 (b3 + 1)) := (h_upo us111 rfl (s0 0 (b3 + 1))); have gm1_112 : s111 112 (s0 0 (b3 + 1)) = s0 112 (s0 0 (b3 + 1)) := (h_upo us111 rfl (s0 0 (b3 + 1))); have gm2_111 : s148 111 (s0 0 (b3 + 1)) = s0 111 (s0 0 (b3 + 1)) := ((h_upo us148 rfl (s0 0 (b3 + 1))).trans (h_upo us111 rfl (s0 0 (b3 + 1)))); have gm2_112 : s148 112 (s0 0 (b3 + 1)) = s0 112 (s0 0 (b3 + 1)) := ((h_upo us148 rfl (s0 0 (b3 + 1))).trans (h_upo us111 rfl (s0 0 (b3 + 1)))); have gk := g_SH.ar j4 (k := s0 0 (b3 + 1)) (by omega) (by omega); first | exact g_SH.lay j4 (k := s0 0 (b3 + 1)) (i := s0 0 (b3 + 2)) (by omega) (by omega) (by omega) (by omega) (fun j _ _ => (ty_96 I0 j).2.1) (by exfalso; omega) (((h_upg us148 rfl).trans ((h_upf us111).trans (g_set_c rfl))).trans (g_set_e rfl (by omega) rfl)) ((h_upg us148 rfl).trans (h_upg us111 rfl)) ((h_upg us148 rfl).trans (h_upg us111 rfl)) ((h_upg us148 rfl).trans (h_upg us111 rfl)) ((h_upg us148 rfl).trans (h_upg us111 rfl)) ((rfl.trans ((h_upf us148).trans (g_set_c (h_upg us111 rfl)))).trans (g_set_e rfl (by omega) rfl)) | (exfalso; omega)) (Int.le_antisymm (by omega) (by omega))
                · clear hz124
                  refine h_bipush (pc' := 27) (x := (Int32.ofInt (-11))) rfl rfl cb_m11 ?_
                  refine h_iret rfl rfl (h_Kv ?_)
                  clear hz113 hz115 hz117
                  refine h_pop (pc' := 1349) rfl rfl rfl ?_
                  refine h_goto (pc' := 1441) rfl rfl ?_
                  exact kk _ Is111 (by first | exact d_tape.le j0 (Int.le_antisymm (by omega) (by omega)) (by omega) (fun j => (h_upo us111 rfl j)) (fun j => (h_upo us111 rfl j)) | (exfalso; omega)) (Int.le_antisymm (by omega) (by omega)) (c_R.up j2 I0 us111 rfl) (g_ti.e j3 (h_upg us111 rfl)) (by exfalso; have gm1_111 : s111 111 (s0 0 (b3 + 1)) = s0 111 (s0 0 (b3 + 1)) := (h_upo us111 rfl (s0 0 (b3 + 1))); have gm1_112 : s111 112 (s0 0 (b3 + 1)) = s0 112 (s0 0 (b3 + 1)) := (h_upo us111 rfl (s0 0 (b3 + 1))); have gk := g_SH.ar j4 (k := s0 0 (b3 + 1)) (by omega) (by omega); omega) (Int.le_antisymm (by omega) (by omega))
              · clear hz107
                refine h_iload_n (pc' := 30) rfl rfl rfl ?_
                refine h_i2s (pc' := 31) rfl rfl (fun z149 hz149 => ?_)
                have kkz149 := hz6
                refine h_istore (pc' := 33) (M := [(4, .int z149), (0, .ref 93), (1, .int z2), (2, .int z4), (3, .int z6)]) rfl rfl rfl rfl ?_
                refine h_aload_n (pc' := 34) rfl rfl rfl ?_
                refine h_getR (pc' := 37) rfl rfl rfl rfl rfl ?_
                refine h_iload_n (pc' := 38) rfl rfl rfl ?_
                refine h_bipush (pc' := 40) (x := (Int32.ofInt 40)) rfl rfl cb_40 ?_
                refine h_imul (pc' := 41) rfl rfl hz2 ci_40 rfl (by have g0 := h_rgv hz2; omega) (by have g0 := h_rgv hz2; omega) (fun z150 hz150 => ?_)
                refine h_iload_n (pc' := 42) rfl rfl rfl ?_
                refine h_iadd (pc' := 43) rfl rfl hz150 hz4 rfl (by have g0 := h_rgv hz4; omega) (by have g0 := h_rgv hz4; omega) (fun z151 hz151 => ?_)
                clear hz150
                refine h_iload (pc' := 45) rfl rfl rfl ?_
                refine h_iast (pc' := 46) rfl rfl rfl rfl hz151 (by omega) (by omega) rfl (h_fgt (E := fun s => s 64 1 = s0 64 1 ∧ s 98 11 = s0 98 11 ∧ s 64 4 = s0 64 4 ∧ s 98 16 = s0 98 16 ∧ s 90 2 = s0 90 2 ∧ s 98 29 = s0 98 29 ∧ s = h_up s0 94 (((s0 0 (b3 + 1)) * 40) + (s0 0 (b3 + 2))) z149.toInt) _ (in_94 I0 (h_rgv rfl)) (F0_.up rfl) ⟨rfl, rfl, rfl, rfl, rfl, rfl, rfl⟩ (fun s152 Is152 Fs152 (es152 : s152 64 1 = s0 64 1 ∧ s152 98 11 = s0 98 11 ∧ s152 64 4 = s0 64 4 ∧ s152 98 16 = s0 98 16 ∧ s152 90 2 = s0 90 2 ∧ s152 98 29 = s0 98 29 ∧ s152 = h_up s0 94 (((s0 0 (b3 + 1)) * 40) + (s0 0 (b3 + 2))) z149.toInt) => ?_))
                have us152 := es152.2.2.2.2.2.2
                have Zs152 : ∀ i, s152 0 i = s0 0 i := fun i => (h_upo us152 rfl i).trans rfl
                clear hz151
                refine h_vret rfl rfl (h_Kn ?_)
                refine h_iconst (pc' := 51) (x := (Int32.ofInt 1)) rfl rfl rfl ?_
                refine h_iret rfl rfl (h_Kv ?_)
                clear hz2 hz4 hz6
                refine h_pop (pc' := 1329) rfl rfl rfl ?_
                refine h_aload_n (pc' := 1330) rfl rfl rfl ?_
                refine h_aload_n (pc' := 1331) rfl rfl rfl ?_
                refine h_iload_n (pc' := 1332) rfl rfl rfl ?_
                refine h_iconst (pc' := 1333) (x := (Int32.ofInt 1)) rfl rfl rfl ?_
                refine h_iadd (pc' := 1334) rfl rfl hy3 ci_1 rfl (by omega) (by omega) (fun z153 hz153 => ?_)
                refine h_iald (pc' := 1335) (v := s0 0 (b3 + 1)) rfl rfl rfl hz153 (by omega) (by omega) (Zs152 _) (fun z154 hz154 => ?_)
                have tz154 := h_rgv hz154
                clear hz153
                refine h_aload_n (pc' := 1336) rfl rfl rfl ?_
                refine h_iload_n (pc' := 1337) rfl rfl rfl ?_
                refine h_iconst (pc' := 1338) (x := (Int32.ofInt 2)) rfl rfl rfl ?_
                refine h_iadd (pc' := 1339) rfl rfl hy3 ci_2 rfl (by omega) (by omega) (fun z155 hz155 => ?_)
                refine h_iald (pc' := 1340) (v := s0 0 (b3 + 2)) rfl rfl rfl hz155 (by omega) (by omega) (Zs152 _) (fun z156 hz156 => ?_)
                have tz156 := h_rgv hz156
                clear hz155
                refine h_aload_n (pc' := 1341) rfl rfl rfl ?_
                refine h_iload_n (pc' := 1342) rfl rfl rfl ?_
                refine h_iconst (pc' := 1343) (x := (Int32.ofInt 3)) rfl rfl rfl ?_
                refine h_iadd (pc' := 1344) rfl rfl hy3 ci_3 rfl (by omega) (by omega) (fun z157 hz157 => ?_)
                refine h_iald (pc' := 1345) (v := s0 0 (b3 + 3)) rfl rfl rfl hz157 (by omega) (by omega) (Zs152 _) (fun z158 hz158 => ?_)
                have tz158 := h_rgv hz158
                clear hz157
                refine h_call (sp := false) (pc' := 1348) (M := [(0, .ref 98), (1, .int z154), (2, .int z156), (3, .int z158)]) rfl rfl rfl rfl rfl rfl rfl rfl ?_
                refine h_iload_n (pc' := 1) rfl rfl rfl ?_
                refine h_i2l (pc' := 2) rfl rfl hz154 (fun z159 hz159 => ?_)
                refine h_lconst (pc' := 3) (x := (Int64.ofInt 0)) rfl rfl rfl ?_
                refine h_ldc2 (pc' := 6) (x := (Int64.ofInt 3)) rfl rfl rfl ?_
                refine h_calls (pc' := 9) (M := [(0, .long z159), (2, .long (Int64.ofInt 0)), (4, .long (Int64.ofInt 3))]) rfl rfl rfl rfl rfl rfl ?_
                refine h_lload_n (pc' := 1) rfl rfl rfl ?_
                refine h_lload_n (pc' := 2) rfl rfl rfl ?_
                refine h_lcmp (pc' := 3) rfl rfl hz159 cl_0 (fun z160 hz160 => ?_)
                refine h_zlt (tg := 17) (pc' := 6) rfl rfl rfl rfl (fun c161 => absurd c161 (by omega)) (fun c161 => ?_)
                replace c161 := (h_lcr hz160).2.1 c161
                clear hz160
                refine h_lload_n (pc' := 7) rfl rfl rfl ?_
                refine h_lload (pc' := 9) rfl rfl rfl ?_
                refine h_lcmp (pc' := 10) rfl rfl hz159 cl_3 (fun z162 hz162 => ?_)
                refine h_zgt (tg := 17) (pc' := 13) rfl rfl rfl rfl (fun c163 => absurd c163 (by omega)) (fun c163 => ?_)
                replace c163 := (h_lcr hz162).2.2.1 c163
                clear hz162
                refine h_iconst (pc' := 14) (x := (Int32.ofInt 1)) rfl rfl rfl ?_
                refine h_goto (pc' := 18) rfl rfl ?_
                refine h_zret rfl rfl ci_1 (by omega) (h_Kv ?_)
                clear hz159
                refine h_zne (tg := 14) (pc' := 12) rfl rfl rfl ci_1 (fun c164 => ?_) (fun c164 => absurd c164 (by omega))
                refine h_aload_n (pc' := 15) rfl rfl rfl ?_
                refine h_getR (pc' := 18) rfl rfl rfl rfl rfl ?_
                refine h_iload_n (pc' := 19) rfl rfl rfl ?_
                refine h_iald (pc' := 20) (v := s152 111 (s0 0 (b3 + 1))) rfl rfl rfl hz154 (by omega) (by omega) rfl (fun z165 hz165 => ?_)
                have tz165 := ty_111 Is152 (s0 0 (b3 + 1))
                refine h_bipush (pc' := 22) (x := (Int32.ofInt (-4))) rfl rfl cb_m4 ?_
                refine h_cne (tg := 28) (pc' := 25) rfl rfl rfl hz165 ci_m4 (fun c166 => ?_) (fun c166 => ?_)
                · clear hz165
                  refine h_iload_n (pc' := 29) rfl rfl rfl ?_
                  refine h_i2l (pc' := 30) rfl rfl hz156 (fun z167 hz167 => ?_)
                  refine h_lconst (pc' := 31) (x := (Int64.ofInt 0)) rfl rfl rfl ?_
                  refine h_aload_n (pc' := 32) rfl rfl rfl ?_
                  refine h_getR (pc' := 35) rfl rfl rfl rfl rfl ?_
                  refine h_iload_n (pc' := 36) rfl rfl rfl ?_
                  refine h_iald (pc' := 37) (v := s152 112 (s0 0 (b3 + 1))) rfl rfl rfl hz154 (by omega) (by omega) rfl (fun z168 hz168 => ?_)
                  have tz168 := ty_112 Is152 (s0 0 (b3 + 1))
                  refine h_iconst (pc' := 38) (x := (Int32.ofInt 1)) rfl rfl rfl ?_
                  refine h_isub (pc' := 39) rfl rfl hz168 ci_1 rfl (by omega) (by omega) (fun z169 hz169 => ?_)
                  clear hz168
                  refine h_i2l (pc' := 40) rfl rfl hz169 (fun z170 hz170 => ?_)
                  clear hz169
                  refine h_calls (pc' := 43) (M := [(0, .long z167), (2, .long (Int64.ofInt 0)), (4, .long z170)]) rfl rfl rfl rfl rfl rfl ?_
                  refine h_lload_n (pc' := 1) rfl rfl rfl ?_
                  refine h_lload_n (pc' := 2) rfl rfl rfl ?_
                  refine h_lcmp (pc' := 3) rfl rfl hz167 cl_0 (fun z171 hz171 => ?_)
                  refine h_zlt (tg := 17) (pc' := 6) rfl rfl rfl rfl (fun c172 => absurd c172 (by omega)) (fun c172 => ?_)
                  replace c172 := (h_lcr hz171).2.1 c172
                  clear hz171
                  refine h_lload_n (pc' := 7) rfl rfl rfl ?_
                  refine h_lload (pc' := 9) rfl rfl rfl ?_
                  refine h_lcmp (pc' := 10) rfl rfl hz167 hz170 (fun z173 hz173 => ?_)
                  refine h_zgt (tg := 17) (pc' := 13) rfl rfl rfl rfl (fun c174 => ?_) (fun c174 => ?_)
                  · replace c174 := (h_lcr hz173).2.2.2.1 c174
                    clear hz173
                    refine h_iconst (pc' := 18) (x := (Int32.ofInt 0)) rfl rfl rfl ?_
                    refine h_zret rfl rfl ci_0 (by omega) (h_Kv ?_)
                    clear hz167 hz170
                    refine h_zne (tg := 49) (pc' := 46) rfl rfl rfl ci_0 (fun c175 => absurd (Int.le_antisymm (by omega) (by omega)) c175) (fun c175 => ?_)
                    refine h_bipush (pc' := 48) (x := (Int32.ofInt (-12))) rfl rfl cb_m12 ?_
                    refine h_iret rfl rfl (h_Kv ?_)
                    clear hz154 hz156 hz158
                    refine h_pop (pc' := 1349) rfl rfl rfl ?_
                    refine h_goto (pc' := 1441) rfl rfl ?_
                    exact kk _ Is152 (by first | exact d_tape.le j0 (Int.le_antisymm (by omega) (by omega)) (by omega) (fun j => (h_upo us152 rfl j)) (fun j => (h_upo us152 rfl j)) | (exfalso; omega)) (Int.le_antisymm (by omega) (by omega)) (c_R.up j2 I0 us152 rfl) (g_ti.e j3 (h_upg us152 rfl)) (by exfalso; have gm1_111 : s152 111 (s0 0 (b3 + 1)) = s0 111 (s0 0 (b3 + 1)) := (h_upo us152 rfl (s0 0 (b3 + 1))); have gm1_112 : s152 112 (s0 0 (b3 + 1)) = s0 112 (s0 0 (b3 + 1)) := (h_upo us152 rfl (s0 0 (b3 + 1))); have gk := g_SH.ar j4 (k := s0 0 (b3 + 1)) (by omega) (by omega); omega) (Int.le_antisymm (by omega) (by omega))
                  · replace c174 := (h_lcr hz173).2.2.1 c174
                    clear hz173
                    refine h_iconst (pc' := 14) (x := (Int32.ofInt 1)) rfl rfl rfl ?_
                    refine h_goto (pc' := 18) rfl rfl ?_
                    refine h_zret rfl rfl ci_1 (by omega) (h_Kv ?_)
                    clear hz167 hz170
                    refine h_zne (tg := 49) (pc' := 46) rfl rfl rfl ci_1 (fun c176 => ?_) (fun c176 => absurd c176 (by omega))
                    refine h_aload_n (pc' := 50) rfl rfl rfl ?_
                    refine h_getR (pc' := 53) rfl rfl rfl rfl rfl ?_
                    refine h_bipush (pc' := 55) (x := (Int32.ofInt 40)) rfl rfl cb_40 ?_
                    refine h_iload_n (pc' := 56) rfl rfl rfl ?_
                    refine h_imul (pc' := 57) rfl rfl ci_40 hz154 rfl (by have g0 := h_rgv hz154; omega) (by have g0 := h_rgv hz154; omega) (fun z177 hz177 => ?_)
                    refine h_iload_n (pc' := 58) rfl rfl rfl ?_
                    refine h_iadd (pc' := 59) rfl rfl hz177 hz156 rfl (by have g0 := h_rgv hz156; omega) (by have g0 := h_rgv hz156; omega) (fun z178 hz178 => ?_)
                    clear hz177
                    refine h_aload_n (pc' := 60) rfl rfl rfl ?_
                    refine h_getR (pc' := 63) rfl rfl rfl rfl rfl ?_
                    refine h_iload_n (pc' := 64) rfl rfl rfl ?_
                    refine h_iald (pc' := 65) (v := s152 111 (s0 0 (b3 + 1))) rfl rfl rfl hz154 (by omega) (by omega) rfl (fun z179 hz179 => ?_)
                    refine h_zne (tg := 78) (pc' := 68) rfl rfl rfl hz179 (fun c180 => ?_) (fun c180 => ?_)
                    · clear hz179
                      refine h_aload_n (pc' := 79) rfl rfl rfl ?_
                      refine h_getR (pc' := 82) rfl rfl rfl rfl rfl ?_
                      refine h_iload_n (pc' := 83) rfl rfl rfl ?_
                      refine h_iald (pc' := 84) (v := s152 111 (s0 0 (b3 + 1))) rfl rfl rfl hz154 (by omega) (by omega) rfl (fun z181 hz181 => ?_)
                      refine h_iconst (pc' := 85) (x := (Int32.ofInt 1)) rfl rfl rfl ?_
                      refine h_cne (tg := 98) (pc' := 88) rfl rfl rfl hz181 ci_1 (fun c182 => ?_) (fun c182 => ?_)
                      · clear hz181
                        refine h_iload_n (pc' := 99) rfl rfl rfl ?_
                        refine h_iast (pc' := 100) rfl rfl rfl rfl hz178 (by omega) (by omega) hz158 (h_fgt (E := fun s => s 64 1 = s0 64 1 ∧ s 98 11 = s0 98 11 ∧ s 64 4 = s0 64 4 ∧ s 98 16 = s0 98 16 ∧ s 90 2 = s0 90 2 ∧ s 98 29 = s0 98 29 ∧ s = h_up s152 113 ((40 * (s0 0 (b3 + 1))) + (s0 0 (b3 + 2))) (s0 0 (b3 + 3))) _ (in_113 Is152 (h_rgv hz158)) (Fs152.up rfl) ⟨es152.1, es152.2.1, es152.2.2.1, es152.2.2.2.1, es152.2.2.2.2.1, es152.2.2.2.2.2.1, rfl⟩ (fun s183 Is183 Fs183 (es183 : s183 64 1 = s0 64 1 ∧ s183 98 11 = s0 98 11 ∧ s183 64 4 = s0 64 4 ∧ s183 98 16 = s0 98 16 ∧ s183 90 2 = s0 90 2 ∧ s183 98 29 = s0 98 29 ∧ s183 = h_up s152 113 ((40 * (s0 0 (b3 + 1))) + (s0 0 (b3 + 2))) (s0 0 (b3 + 3))) => ?_))
                        clear es152
                        have us183 := es183.2.2.2.2.2.2
                        have Zs183 : ∀ i, s183 0 i = s0 0 i := fun i => (h_upo us183 rfl i).trans (Zs152 i)
                        clear hz178
                        refine h_iconst (pc' := 101) (x := (Int32.ofInt 1)) rfl rfl rfl ?_
                        refine h_iret rfl rfl (h_Kv ?_)
                        clear hz154 hz156 hz158
                        refine h_pop (pc' := 1349) rfl rfl rfl ?_
                        refine h_goto (pc' := 1441) rfl rfl ?_
                        exact kk _ Is183 (by first | exact d_tape.le j0 (Int.le_antisymm (by omega) (by omega)) (by omega) (fun j => (h_upo us183 rfl j).trans ((h_upo us152 rfl j))) (fun j => (h_upo us183 rfl j).trans ((h_upo us152 rfl j))) | (exfalso; omega)) (Int.le_antisymm (by omega) (by omega)) (c_R.up (c_R.up j2 I0 us152 rfl) Is152 us183 rfl) (g_ti.e j3 ((h_upg us183 rfl).trans (h_upg us152 rfl))) (by have gm1_111 : s152 111 (s0 0 (b3 + 1)) = s0 111 (s0 0 (b3 + 1)) := (h_upo us152 rfl (s0 0 (b3 + 1))); have gm1_112 : s152 112 (s0 0 (b3 + 1)) = s0 112 (s0 0 (b3 + 1)) := (h_upo us152 rfl (s0 0 (b3 + 1))); have gm2_111 : s183 111 (s0 0 (b3 + 1)) = s0 111 (s0 0 (b3 + 1)) := ((h_upo us183 rfl (s0 0 (b3 + 1))).trans (h_upo us152 rfl (s0 0 (b3 + 1)))); have gm2_112 : s183 112 (s0 0 (b3 + 1)) = s0 112 (s0 0 (b3 + 1)) := ((h_upo us183 rfl (s0 0 (b3 + 1))).trans (h_upo us152 rfl (s0 0 (b3 + 1)))); have gk := g_SH.ar j4 (k := s0 0 (b3 + 1)) (by omega) (by omega); first | exact g_SH.lay j4 (k := s0 0 (b3 + 1)) (i := s0 0 (b3 + 2)) (by omega) (by omega) (by omega) (by omega) (fun j _ _ => (ty_96 I0 j).2.1) (by exfalso; omega) (((h_upg us183 rfl).trans ((h_upf us152).trans (g_set_c rfl))).trans (g_set_e rfl (by omega) rfl)) ((h_upg us183 rfl).trans (h_upg us152 rfl)) ((h_upg us183 rfl).trans (h_upg us152 rfl)) ((h_upg us183 rfl).trans (h_upg us152 rfl)) ((h_upg us183 rfl).trans (h_upg us152 rfl)) ((rfl.trans ((h_upf us183).trans (g_set_c (h_upg us152 rfl)))).trans (g_set_e rfl (by omega) rfl)) | (exfalso; omega)) (Int.le_antisymm (by omega) (by omega))
                      · clear hz181
                        refine h_iload_n (pc' := 89) rfl rfl rfl ?_
                        refine h_bipush (pc' := 91) (x := (Int32.ofInt 16)) rfl rfl cb_16 ?_
                        refine h_ishl (pc' := 92) rfl rfl (fun z184 hz184 => ?_)
                        have kkz184 := hz158
                        refine h_bipush (pc' := 94) (x := (Int32.ofInt 16)) rfl rfl cb_16 ?_
                        refine h_ishr (pc' := 95) rfl rfl (fun z185 hz185 => ?_)
                        refine h_goto (pc' := 99) rfl rfl ?_
                        refine h_iast (pc' := 100) rfl rfl rfl rfl hz178 (by omega) (by omega) rfl (h_fgt (E := fun s => s 64 1 = s0 64 1 ∧ s 98 11 = s0 98 11 ∧ s 64 4 = s0 64 4 ∧ s 98 16 = s0 98 16 ∧ s 90 2 = s0 90 2 ∧ s 98 29 = s0 98 29 ∧ s = h_up s152 113 ((40 * (s0 0 (b3 + 1))) + (s0 0 (b3 + 2))) z185.toInt) _ (in_113 Is152 (h_rgv rfl)) (Fs152.up rfl) ⟨es152.1, es152.2.1, es152.2.2.1, es152.2.2.2.1, es152.2.2.2.2.1, es152.2.2.2.2.2.1, rfl⟩ (fun s186 Is186 Fs186 (es186 : s186 64 1 = s0 64 1 ∧ s186 98 11 = s0 98 11 ∧ s186 64 4 = s0 64 4 ∧ s186 98 16 = s0 98 16 ∧ s186 90 2 = s0 90 2 ∧ s186 98 29 = s0 98 29 ∧ s186 = h_up s152 113 ((40 * (s0 0 (b3 + 1))) + (s0 0 (b3 + 2))) z185.toInt) => ?_))
                        clear es152
                        have us186 := es186.2.2.2.2.2.2
                        have Zs186 : ∀ i, s186 0 i = s0 0 i := fun i => (h_upo us186 rfl i).trans (Zs152 i)
                        clear hz178
                        refine h_iconst (pc' := 101) (x := (Int32.ofInt 1)) rfl rfl rfl ?_
                        refine h_iret rfl rfl (h_Kv ?_)
                        clear hz154 hz156 hz158
                        refine h_pop (pc' := 1349) rfl rfl rfl ?_
                        refine h_goto (pc' := 1441) rfl rfl ?_
                        exact kk _ Is186 (by first | exact d_tape.le j0 (Int.le_antisymm (by omega) (by omega)) (by omega) (fun j => (h_upo us186 rfl j).trans ((h_upo us152 rfl j))) (fun j => (h_upo us186 rfl j).trans ((h_upo us152 rfl j))) | (exfalso; omega)) (Int.le_antisymm (by omega) (by omega)) (c_R.up (c_R.up j2 I0 us152 rfl) Is152 us186 rfl) (g_ti.e j3 ((h_upg us186 rfl).trans (h_upg us152 rfl))) (by have gm1_111 : s152 111 (s0 0 (b3 + 1)) = s0 111 (s0 0 (b3 + 1)) := (h_upo us152 rfl (s0 0 (b3 + 1))); have gm1_112 : s152 112 (s0 0 (b3 + 1)) = s0 112 (s0 0 (b3 + 1)) := (h_upo us152 rfl (s0 0 (b3 + 1))); have gm2_111 : s186 111 (s0 0 (b3 + 1)) = s0 111 (s0 0 (b3 + 1)) := ((h_upo us186 rfl (s0 0 (b3 + 1))).trans (h_upo us152 rfl (s0 0 (b3 + 1)))); have gm2_112 : s186 112 (s0 0 (b3 + 1)) = s0 112 (s0 0 (b3 + 1)) := ((h_upo us186 rfl (s0 0 (b3 + 1))).trans (h_upo us152 rfl (s0 0 (b3 + 1)))); have gk := g_SH.ar j4 (k := s0 0 (b3 + 1)) (by omega) (by omega); first | exact g_SH.lay j4 (k := s0 0 (b3 + 1)) (i := s0 0 (b3 + 2)) (by omega) (by omega) (by omega) (by omega) (fun j _ _ => (ty_96 I0 j).2.1) (g_ly16 hz149 hz184 hz185 (by omega)) (((h_upg us186 rfl).trans ((h_upf us152).trans (g_set_c rfl))).trans (g_set_e rfl (by omega) rfl)) ((h_upg us186 rfl).trans (h_upg us152 rfl)) ((h_upg us186 rfl).trans (h_upg us152 rfl)) ((h_upg us186 rfl).trans (h_upg us152 rfl)) ((h_upg us186 rfl).trans (h_upg us152 rfl)) ((rfl.trans ((h_upf us186).trans (g_set_c (h_upg us152 rfl)))).trans (g_set_e rfl (by omega) rfl)) | (exfalso; omega)) (Int.le_antisymm (by omega) (by omega))
                    · clear hz179
                      refine h_iload_n (pc' := 69) rfl rfl rfl ?_
                      refine h_bipush (pc' := 71) (x := (Int32.ofInt 24)) rfl rfl cb_24 ?_
                      refine h_ishl (pc' := 72) rfl rfl (fun z187 hz187 => ?_)
                      have kkz187 := hz158
                      refine h_bipush (pc' := 74) (x := (Int32.ofInt 24)) rfl rfl cb_24 ?_
                      refine h_ishr (pc' := 75) rfl rfl (fun z188 hz188 => ?_)
                      refine h_goto (pc' := 99) rfl rfl ?_
                      refine h_iast (pc' := 100) rfl rfl rfl rfl hz178 (by omega) (by omega) rfl (h_fgt (E := fun s => s 64 1 = s0 64 1 ∧ s 98 11 = s0 98 11 ∧ s 64 4 = s0 64 4 ∧ s 98 16 = s0 98 16 ∧ s 90 2 = s0 90 2 ∧ s 98 29 = s0 98 29 ∧ s = h_up s152 113 ((40 * (s0 0 (b3 + 1))) + (s0 0 (b3 + 2))) z188.toInt) _ (in_113 Is152 (h_rgv rfl)) (Fs152.up rfl) ⟨es152.1, es152.2.1, es152.2.2.1, es152.2.2.2.1, es152.2.2.2.2.1, es152.2.2.2.2.2.1, rfl⟩ (fun s189 Is189 Fs189 (es189 : s189 64 1 = s0 64 1 ∧ s189 98 11 = s0 98 11 ∧ s189 64 4 = s0 64 4 ∧ s189 98 16 = s0 98 16 ∧ s189 90 2 = s0 90 2 ∧ s189 98 29 = s0 98 29 ∧ s189 = h_up s152 113 ((40 * (s0 0 (b3 + 1))) + (s0 0 (b3 + 2))) z188.toInt) => ?_))
                      clear es152
                      have us189 := es189.2.2.2.2.2.2
                      have Zs189 : ∀ i, s189 0 i = s0 0 i := fun i => (h_upo us189 rfl i).trans (Zs152 i)
                      clear hz178
                      refine h_iconst (pc' := 101) (x := (Int32.ofInt 1)) rfl rfl rfl ?_
                      refine h_iret rfl rfl (h_Kv ?_)
                      clear hz154 hz156 hz158
                      refine h_pop (pc' := 1349) rfl rfl rfl ?_
                      refine h_goto (pc' := 1441) rfl rfl ?_
                      exact kk _ Is189 (by first | exact d_tape.le j0 (Int.le_antisymm (by omega) (by omega)) (by omega) (fun j => (h_upo us189 rfl j).trans ((h_upo us152 rfl j))) (fun j => (h_upo us189 rfl j).trans ((h_upo us152 rfl j))) | (exfalso; omega)) (Int.le_antisymm (by omega) (by omega)) (c_R.up (c_R.up j2 I0 us152 rfl) Is152 us189 rfl) (g_ti.e j3 ((h_upg us189 rfl).trans (h_upg us152 rfl))) (by have gm1_111 : s152 111 (s0 0 (b3 + 1)) = s0 111 (s0 0 (b3 + 1)) := (h_upo us152 rfl (s0 0 (b3 + 1))); have gm1_112 : s152 112 (s0 0 (b3 + 1)) = s0 112 (s0 0 (b3 + 1)) := (h_upo us152 rfl (s0 0 (b3 + 1))); have gm2_111 : s189 111 (s0 0 (b3 + 1)) = s0 111 (s0 0 (b3 + 1)) := ((h_upo us189 rfl (s0 0 (b3 + 1))).trans (h_upo us152 rfl (s0 0 (b3 + 1)))); have gm2_112 : s189 112 (s0 0 (b3 + 1)) = s0 112 (s0 0 (b3 + 1)) := ((h_upo us189 rfl (s0 0 (b3 + 1))).trans (h_upo us152 rfl (s0 0 (b3 + 1)))); have gk := g_SH.ar j4 (k := s0 0 (b3 + 1)) (by omega) (by omega); first | exact g_SH.lay j4 (k := s0 0 (b3 + 1)) (i := s0 0 (b3 + 2)) (by omega) (by omega) (by omega) (by omega) (fun j _ _ => (ty_96 I0 j).2.1) (by exfalso; omega) (((h_upg us189 rfl).trans ((h_upf us152).trans (g_set_c rfl))).trans (g_set_e rfl (by omega) rfl)) ((h_upg us189 rfl).trans (h_upg us152 rfl)) ((h_upg us189 rfl).trans (h_upg us152 rfl)) ((h_upg us189 rfl).trans (h_upg us152 rfl)) ((h_upg us189 rfl).trans (h_upg us152 rfl)) ((rfl.trans ((h_upf us189).trans (g_set_c (h_upg us152 rfl)))).trans (g_set_e rfl (by omega) rfl)) | (exfalso; omega)) (Int.le_antisymm (by omega) (by omega))
                · clear hz165
                  refine h_bipush (pc' := 27) (x := (Int32.ofInt (-11))) rfl rfl cb_m11 ?_
                  refine h_iret rfl rfl (h_Kv ?_)
                  clear hz154 hz156 hz158
                  refine h_pop (pc' := 1349) rfl rfl rfl ?_
                  refine h_goto (pc' := 1441) rfl rfl ?_
                  exact kk _ Is152 (by first | exact d_tape.le j0 (Int.le_antisymm (by omega) (by omega)) (by omega) (fun j => (h_upo us152 rfl j)) (fun j => (h_upo us152 rfl j)) | (exfalso; omega)) (Int.le_antisymm (by omega) (by omega)) (c_R.up j2 I0 us152 rfl) (g_ti.e j3 (h_upg us152 rfl)) (by exfalso; have gm1_111 : s152 111 (s0 0 (b3 + 1)) = s0 111 (s0 0 (b3 + 1)) := (h_upo us152 rfl (s0 0 (b3 + 1))); have gm1_112 : s152 112 (s0 0 (b3 + 1)) = s0 112 (s0 0 (b3 + 1)) := (h_upo us152 rfl (s0 0 (b3 + 1))); have gk := g_SH.ar j4 (k := s0 0 (b3 + 1)) (by omega) (by omega); omega) (Int.le_antisymm (by omega) (by omega))
            · clear hz105
              refine h_iload_n (pc' := 13) rfl rfl rfl ?_
              refine h_i2b (pc' := 14) rfl rfl (fun z190 hz190 => ?_)
              have kkz190 := hz6
              refine h_istore (pc' := 16) (M := [(4, .int z190), (0, .ref 93), (1, .int z2), (2, .int z4), (3, .int z6)]) rfl rfl rfl rfl ?_
              refine h_goto (pc' := 33) rfl rfl ?_
              refine h_aload_n (pc' := 34) rfl rfl rfl ?_
              refine h_getR (pc' := 37) rfl rfl rfl rfl rfl ?_
              refine h_iload_n (pc' := 38) rfl rfl rfl ?_
              refine h_bipush (pc' := 40) (x := (Int32.ofInt 40)) rfl rfl cb_40 ?_
              refine h_imul (pc' := 41) rfl rfl hz2 ci_40 rfl (by have g0 := h_rgv hz2; omega) (by have g0 := h_rgv hz2; omega) (fun z191 hz191 => ?_)
              refine h_iload_n (pc' := 42) rfl rfl rfl ?_
              refine h_iadd (pc' := 43) rfl rfl hz191 hz4 rfl (by have g0 := h_rgv hz4; omega) (by have g0 := h_rgv hz4; omega) (fun z192 hz192 => ?_)
              clear hz191
              refine h_iload (pc' := 45) rfl rfl rfl ?_
              refine h_iast (pc' := 46) rfl rfl rfl rfl hz192 (by omega) (by omega) rfl (h_fgt (E := fun s => s 64 1 = s0 64 1 ∧ s 98 11 = s0 98 11 ∧ s 64 4 = s0 64 4 ∧ s 98 16 = s0 98 16 ∧ s 90 2 = s0 90 2 ∧ s 98 29 = s0 98 29 ∧ s = h_up s0 94 (((s0 0 (b3 + 1)) * 40) + (s0 0 (b3 + 2))) z190.toInt) _ (in_94 I0 (h_rgv rfl)) (F0_.up rfl) ⟨rfl, rfl, rfl, rfl, rfl, rfl, rfl⟩ (fun s193 Is193 Fs193 (es193 : s193 64 1 = s0 64 1 ∧ s193 98 11 = s0 98 11 ∧ s193 64 4 = s0 64 4 ∧ s193 98 16 = s0 98 16 ∧ s193 90 2 = s0 90 2 ∧ s193 98 29 = s0 98 29 ∧ s193 = h_up s0 94 (((s0 0 (b3 + 1)) * 40) + (s0 0 (b3 + 2))) z190.toInt) => ?_))
              have us193 := es193.2.2.2.2.2.2
              have Zs193 : ∀ i, s193 0 i = s0 0 i := fun i => (h_upo us193 rfl i).trans rfl
              clear hz192
              refine h_vret rfl rfl (h_Kn ?_)
              refine h_iconst (pc' := 51) (x := (Int32.ofInt 1)) rfl rfl rfl ?_
              refine h_iret rfl rfl (h_Kv ?_)
              clear hz2 hz4 hz6
              refine h_pop (pc' := 1329) rfl rfl rfl ?_
              refine h_aload_n (pc' := 1330) rfl rfl rfl ?_
              refine h_aload_n (pc' := 1331) rfl rfl rfl ?_
              refine h_iload_n (pc' := 1332) rfl rfl rfl ?_
              refine h_iconst (pc' := 1333) (x := (Int32.ofInt 1)) rfl rfl rfl ?_
              refine h_iadd (pc' := 1334) rfl rfl hy3 ci_1 rfl (by omega) (by omega) (fun z194 hz194 => ?_)
              refine h_iald (pc' := 1335) (v := s0 0 (b3 + 1)) rfl rfl rfl hz194 (by omega) (by omega) (Zs193 _) (fun z195 hz195 => ?_)
              have tz195 := h_rgv hz195
              clear hz194
              refine h_aload_n (pc' := 1336) rfl rfl rfl ?_
              refine h_iload_n (pc' := 1337) rfl rfl rfl ?_
              refine h_iconst (pc' := 1338) (x := (Int32.ofInt 2)) rfl rfl rfl ?_
              refine h_iadd (pc' := 1339) rfl rfl hy3 ci_2 rfl (by omega) (by omega) (fun z196 hz196 => ?_)
              refine h_iald (pc' := 1340) (v := s0 0 (b3 + 2)) rfl rfl rfl hz196 (by omega) (by omega) (Zs193 _) (fun z197 hz197 => ?_)
              have tz197 := h_rgv hz197
              clear hz196
              refine h_aload_n (pc' := 1341) rfl rfl rfl ?_
              refine h_iload_n (pc' := 1342) rfl rfl rfl ?_
              refine h_iconst (pc' := 1343) (x := (Int32.ofInt 3)) rfl rfl rfl ?_
              refine h_iadd (pc' := 1344) rfl rfl hy3 ci_3 rfl (by omega) (by omega) (fun z198 hz198 => ?_)
              refine h_iald (pc' := 1345) (v := s0 0 (b3 + 3)) rfl rfl rfl hz198 (by omega) (by omega) (Zs193 _) (fun z199 hz199 => ?_)
              have tz199 := h_rgv hz199
              clear hz198
              refine h_call (sp := false) (pc' := 1348) (M := [(0, .ref 98), (1, .int z195), (2, .int z197), (3, .int z199)]) rfl rfl rfl rfl rfl rfl rfl rfl ?_
              refine h_iload_n (pc' := 1) rfl rfl rfl ?_
              refine h_i2l (pc' := 2) rfl rfl hz195 (fun z200 hz200 => ?_)
              refine h_lconst (pc' := 3) (x := (Int64.ofInt 0)) rfl rfl rfl ?_
              refine h_ldc2 (pc' := 6) (x := (Int64.ofInt 3)) rfl rfl rfl ?_
              refine h_calls (pc' := 9) (M := [(0, .long z200), (2, .long (Int64.ofInt 0)), (4, .long (Int64.ofInt 3))]) rfl rfl rfl rfl rfl rfl ?_
              refine h_lload_n (pc' := 1) rfl rfl rfl ?_
              refine h_lload_n (pc' := 2) rfl rfl rfl ?_
              refine h_lcmp (pc' := 3) rfl rfl hz200 cl_0 (fun z201 hz201 => ?_)
              refine h_zlt (tg := 17) (pc' := 6) rfl rfl rfl rfl (fun c202 => absurd c202 (by omega)) (fun c202 => ?_)
              replace c202 := (h_lcr hz201).2.1 c202
              clear hz201
              refine h_lload_n (pc' := 7) rfl rfl rfl ?_
              refine h_lload (pc' := 9) rfl rfl rfl ?_
              refine h_lcmp (pc' := 10) rfl rfl hz200 cl_3 (fun z203 hz203 => ?_)
              refine h_zgt (tg := 17) (pc' := 13) rfl rfl rfl rfl (fun c204 => absurd c204 (by omega)) (fun c204 => ?_)
              replace c204 := (h_lcr hz203).2.2.1 c204
              clear hz203
              refine h_iconst (pc' := 14) (x := (Int32.ofInt 1)) rfl rfl rfl ?_
              refine h_goto (pc' := 18) rfl rfl ?_
              refine h_zret rfl rfl ci_1 (by omega) (h_Kv ?_)
              clear hz200
              refine h_zne (tg := 14) (pc' := 12) rfl rfl rfl ci_1 (fun c205 => ?_) (fun c205 => absurd c205 (by omega))
              refine h_aload_n (pc' := 15) rfl rfl rfl ?_
              refine h_getR (pc' := 18) rfl rfl rfl rfl rfl ?_
              refine h_iload_n (pc' := 19) rfl rfl rfl ?_
              refine h_iald (pc' := 20) (v := s193 111 (s0 0 (b3 + 1))) rfl rfl rfl hz195 (by omega) (by omega) rfl (fun z206 hz206 => ?_)
              have tz206 := ty_111 Is193 (s0 0 (b3 + 1))
              refine h_bipush (pc' := 22) (x := (Int32.ofInt (-4))) rfl rfl cb_m4 ?_
              refine h_cne (tg := 28) (pc' := 25) rfl rfl rfl hz206 ci_m4 (fun c207 => ?_) (fun c207 => ?_)
              · clear hz206
                refine h_iload_n (pc' := 29) rfl rfl rfl ?_
                refine h_i2l (pc' := 30) rfl rfl hz197 (fun z208 hz208 => ?_)
                refine h_lconst (pc' := 31) (x := (Int64.ofInt 0)) rfl rfl rfl ?_
                refine h_aload_n (pc' := 32) rfl rfl rfl ?_
                refine h_getR (pc' := 35) rfl rfl rfl rfl rfl ?_
                refine h_iload_n (pc' := 36) rfl rfl rfl ?_
                refine h_iald (pc' := 37) (v := s193 112 (s0 0 (b3 + 1))) rfl rfl rfl hz195 (by omega) (by omega) rfl (fun z209 hz209 => ?_)
                have tz209 := ty_112 Is193 (s0 0 (b3 + 1))
                refine h_iconst (pc' := 38) (x := (Int32.ofInt 1)) rfl rfl rfl ?_
                refine h_isub (pc' := 39) rfl rfl hz209 ci_1 rfl (by omega) (by omega) (fun z210 hz210 => ?_)
                clear hz209
                refine h_i2l (pc' := 40) rfl rfl hz210 (fun z211 hz211 => ?_)
                clear hz210
                refine h_calls (pc' := 43) (M := [(0, .long z208), (2, .long (Int64.ofInt 0)), (4, .long z211)]) rfl rfl rfl rfl rfl rfl ?_
                refine h_lload_n (pc' := 1) rfl rfl rfl ?_
                refine h_lload_n (pc' := 2) rfl rfl rfl ?_
                refine h_lcmp (pc' := 3) rfl rfl hz208 cl_0 (fun z212 hz212 => ?_)
                refine h_zlt (tg := 17) (pc' := 6) rfl rfl rfl rfl (fun c213 => absurd c213 (by omega)) (fun c213 => ?_)
                replace c213 := (h_lcr hz212).2.1 c213
                clear hz212
                refine h_lload_n (pc' := 7) rfl rfl rfl ?_
                refine h_lload (pc' := 9) rfl rfl rfl ?_
                refine h_lcmp (pc' := 10) rfl rfl hz208 hz211 (fun z214 hz214 => ?_)
                refine h_zgt (tg := 17) (pc' := 13) rfl rfl rfl rfl (fun c215 => ?_) (fun c215 => ?_)
                · replace c215 := (h_lcr hz214).2.2.2.1 c215
                  clear hz214
                  refine h_iconst (pc' := 18) (x := (Int32.ofInt 0)) rfl rfl rfl ?_
                  refine h_zret rfl rfl ci_0 (by omega) (h_Kv ?_)
                  clear hz208 hz211
                  refine h_zne (tg := 49) (pc' := 46) rfl rfl rfl ci_0 (fun c216 => absurd (Int.le_antisymm (by omega) (by omega)) c216) (fun c216 => ?_)
                  refine h_bipush (pc' := 48) (x := (Int32.ofInt (-12))) rfl rfl cb_m12 ?_
                  refine h_iret rfl rfl (h_Kv ?_)
                  clear hz195 hz197 hz199
                  refine h_pop (pc' := 1349) rfl rfl rfl ?_
                  refine h_goto (pc' := 1441) rfl rfl ?_
                  exact kk _ Is193 (by first | exact d_tape.le j0 (Int.le_antisymm (by omega) (by omega)) (by omega) (fun j => (h_upo us193 rfl j)) (fun j => (h_upo us193 rfl j)) | (exfalso; omega)) (Int.le_antisymm (by omega) (by omega)) (c_R.up j2 I0 us193 rfl) (g_ti.e j3 (h_upg us193 rfl)) (by exfalso; have gm1_111 : s193 111 (s0 0 (b3 + 1)) = s0 111 (s0 0 (b3 + 1)) := (h_upo us193 rfl (s0 0 (b3 + 1))); have gm1_112 : s193 112 (s0 0 (b3 + 1)) = s0 112 (s0 0 (b3 + 1)) := (h_upo us193 rfl (s0 0 (b3 + 1))); have gk := g_SH.ar j4 (k := s0 0 (b3 + 1)) (by omega) (by omega); omega) (Int.le_antisymm (by omega) (by omega))
                · replace c215 := (h_lcr hz214).2.2.1 c215
                  clear hz214
                  refine h_iconst (pc' := 14) (x := (Int32.ofInt 1)) rfl rfl rfl ?_
                  refine h_goto (pc' := 18) rfl rfl ?_
                  refine h_zret rfl rfl ci_1 (by omega) (h_Kv ?_)
                  clear hz208 hz211
                  refine h_zne (tg := 49) (pc' := 46) rfl rfl rfl ci_1 (fun c217 => ?_) (fun c217 => absurd c217 (by omega))
                  refine h_aload_n (pc' := 50) rfl rfl rfl ?_
                  refine h_getR (pc' := 53) rfl rfl rfl rfl rfl ?_
                  refine h_bipush (pc' := 55) (x := (Int32.ofInt 40)) rfl rfl cb_40 ?_
                  refine h_iload_n (pc' := 56) rfl rfl rfl ?_
                  refine h_imul (pc' := 57) rfl rfl ci_40 hz195 rfl (by have g0 := h_rgv hz195; omega) (by have g0 := h_rgv hz195; omega) (fun z218 hz218 => ?_)
                  refine h_iload_n (pc' := 58) rfl rfl rfl ?_
                  refine h_iadd (pc' := 59) rfl rfl hz218 hz197 rfl (by have g0 := h_rgv hz197; omega) (by have g0 := h_rgv hz197; omega) (fun z219 hz219 => ?_)
                  clear hz218
                  refine h_aload_n (pc' := 60) rfl rfl rfl ?_
                  refine h_getR (pc' := 63) rfl rfl rfl rfl rfl ?_
                  refine h_iload_n (pc' := 64) rfl rfl rfl ?_
                  refine h_iald (pc' := 65) (v := s193 111 (s0 0 (b3 + 1))) rfl rfl rfl hz195 (by omega) (by omega) rfl (fun z220 hz220 => ?_)
                  refine h_zne (tg := 78) (pc' := 68) rfl rfl rfl hz220 (fun c221 => ?_) (fun c221 => ?_)
                  · clear hz220
                    refine h_aload_n (pc' := 79) rfl rfl rfl ?_
                    refine h_getR (pc' := 82) rfl rfl rfl rfl rfl ?_
                    refine h_iload_n (pc' := 83) rfl rfl rfl ?_
                    refine h_iald (pc' := 84) (v := s193 111 (s0 0 (b3 + 1))) rfl rfl rfl hz195 (by omega) (by omega) rfl (fun z222 hz222 => ?_)
                    refine h_iconst (pc' := 85) (x := (Int32.ofInt 1)) rfl rfl rfl ?_
                    refine h_cne (tg := 98) (pc' := 88) rfl rfl rfl hz222 ci_1 (fun c223 => ?_) (fun c223 => ?_)
                    · clear hz222
                      refine h_iload_n (pc' := 99) rfl rfl rfl ?_
                      refine h_iast (pc' := 100) rfl rfl rfl rfl hz219 (by omega) (by omega) hz199 (h_fgt (E := fun s => s 64 1 = s0 64 1 ∧ s 98 11 = s0 98 11 ∧ s 64 4 = s0 64 4 ∧ s 98 16 = s0 98 16 ∧ s 90 2 = s0 90 2 ∧ s 98 29 = s0 98 29 ∧ s = h_up s193 113 ((40 * (s0 0 (b3 + 1))) + (s0 0 (b3 + 2))) (s0 0 (b3 + 3))) _ (in_113 Is193 (h_rgv hz199)) (Fs193.up rfl) ⟨es193.1, es193.2.1, es193.2.2.1, es193.2.2.2.1, es193.2.2.2.2.1, es193.2.2.2.2.2.1, rfl⟩ (fun s224 Is224 Fs224 (es224 : s224 64 1 = s0 64 1 ∧ s224 98 11 = s0 98 11 ∧ s224 64 4 = s0 64 4 ∧ s224 98 16 = s0 98 16 ∧ s224 90 2 = s0 90 2 ∧ s224 98 29 = s0 98 29 ∧ s224 = h_up s193 113 ((40 * (s0 0 (b3 + 1))) + (s0 0 (b3 + 2))) (s0 0 (b3 + 3))) => ?_))
                      clear es193
                      have us224 := es224.2.2.2.2.2.2
                      have Zs224 : ∀ i, s224 0 i = s0 0 i := fun i => (h_upo us224 rfl i).trans (Zs193 i)
                      clear hz219
                      refine h_iconst (pc' := 101) (x := (Int32.ofInt 1)) rfl rfl rfl ?_
                      refine h_iret rfl rfl (h_Kv ?_)
                      clear hz195 hz197 hz199
                      refine h_pop (pc' := 1349) rfl rfl rfl ?_
                      refine h_goto (pc' := 1441) rfl rfl ?_
                      exact kk _ Is224 (by first | exact d_tape.le j0 (Int.le_antisymm (by omega) (by omega)) (by omega) (fun j => (h_upo us224 rfl j).trans ((h_upo us193 rfl j))) (fun j => (h_upo us224 rfl j).trans ((h_upo us193 rfl j))) | (exfalso; omega)) (Int.le_antisymm (by omega) (by omega)) (c_R.up (c_R.up j2 I0 us193 rfl) Is193 us224 rfl) (g_ti.e j3 ((h_upg us224 rfl).trans (h_upg us193 rfl))) (by have gm1_111 : s193 111 (s0 0 (b3 + 1)) = s0 111 (s0 0 (b3 + 1)) := (h_upo us193 rfl (s0 0 (b3 + 1))); have gm1_112 : s193 112 (s0 0 (b3 + 1)) = s0 112 (s0 0 (b3 + 1)) := (h_upo us193 rfl (s0 0 (b3 + 1))); have gm2_111 : s224 111 (s0 0 (b3 + 1)) = s0 111 (s0 0 (b3 + 1)) := ((h_upo us224 rfl (s0 0 (b3 + 1))).trans (h_upo us193 rfl (s0 0 (b3 + 1)))); have gm2_112 : s224 112 (s0 0 (b3 + 1)) = s0 112 (s0 0 (b3 + 1)) := ((h_upo us224 rfl (s0 0 (b3 + 1))).trans (h_upo us193 rfl (s0 0 (b3 + 1)))); have gk := g_SH.ar j4 (k := s0 0 (b3 + 1)) (by omega) (by omega); first | exact g_SH.lay j4 (k := s0 0 (b3 + 1)) (i := s0 0 (b3 + 2)) (by omega) (by omega) (by omega) (by omega) (fun j _ _ => (ty_96 I0 j).2.1) (by exfalso; omega) (((h_upg us224 rfl).trans ((h_upf us193).trans (g_set_c rfl))).trans (g_set_e rfl (by omega) rfl)) ((h_upg us224 rfl).trans (h_upg us193 rfl)) ((h_upg us224 rfl).trans (h_upg us193 rfl)) ((h_upg us224 rfl).trans (h_upg us193 rfl)) ((h_upg us224 rfl).trans (h_upg us193 rfl)) ((rfl.trans ((h_upf us224).trans (g_set_c (h_upg us193 rfl)))).trans (g_set_e rfl (by omega) rfl)) | (exfalso; omega)) (Int.le_antisymm (by omega) (by omega))
                    · clear hz222
                      refine h_iload_n (pc' := 89) rfl rfl rfl ?_
                      refine h_bipush (pc' := 91) (x := (Int32.ofInt 16)) rfl rfl cb_16 ?_
                      refine h_ishl (pc' := 92) rfl rfl (fun z225 hz225 => ?_)
                      have kkz225 := hz199
                      refine h_bipush (pc' := 94) (x := (Int32.ofInt 16)) rfl rfl cb_16 ?_
                      refine h_ishr (pc' := 95) rfl rfl (fun z226 hz226 => ?_)
                      refine h_goto (pc' := 99) rfl rfl ?_
                      refine h_iast (pc' := 100) rfl rfl rfl rfl hz219 (by omega) (by omega) rfl (h_fgt (E := fun s => s 64 1 = s0 64 1 ∧ s 98 11 = s0 98 11 ∧ s 64 4 = s0 64 4 ∧ s 98 16 = s0 98 16 ∧ s 90 2 = s0 90 2 ∧ s 98 29 = s0 98 29 ∧ s = h_up s193 113 ((40 * (s0 0 (b3 + 1))) + (s0 0 (b3 + 2))) z226.toInt) _ (in_113 Is193 (h_rgv rfl)) (Fs193.up rfl) ⟨es193.1, es193.2.1, es193.2.2.1, es193.2.2.2.1, es193.2.2.2.2.1, es193.2.2.2.2.2.1, rfl⟩ (fun s227 Is227 Fs227 (es227 : s227 64 1 = s0 64 1 ∧ s227 98 11 = s0 98 11 ∧ s227 64 4 = s0 64 4 ∧ s227 98 16 = s0 98 16 ∧ s227 90 2 = s0 90 2 ∧ s227 98 29 = s0 98 29 ∧ s227 = h_up s193 113 ((40 * (s0 0 (b3 + 1))) + (s0 0 (b3 + 2))) z226.toInt) => ?_))
                      clear es193
                      have us227 := es227.2.2.2.2.2.2
                      have Zs227 : ∀ i, s227 0 i = s0 0 i := fun i => (h_upo us227 rfl i).trans (Zs193 i)
                      clear hz219
                      refine h_iconst (pc' := 101) (x := (Int32.ofInt 1)) rfl rfl rfl ?_
                      refine h_iret rfl rfl (h_Kv ?_)
                      clear hz195 hz197 hz199
                      refine h_pop (pc' := 1349) rfl rfl rfl ?_
                      refine h_goto (pc' := 1441) rfl rfl ?_
                      exact kk _ Is227 (by first | exact d_tape.le j0 (Int.le_antisymm (by omega) (by omega)) (by omega) (fun j => (h_upo us227 rfl j).trans ((h_upo us193 rfl j))) (fun j => (h_upo us227 rfl j).trans ((h_upo us193 rfl j))) | (exfalso; omega)) (Int.le_antisymm (by omega) (by omega)) (c_R.up (c_R.up j2 I0 us193 rfl) Is193 us227 rfl) (g_ti.e j3 ((h_upg us227 rfl).trans (h_upg us193 rfl))) (by have gm1_111 : s193 111 (s0 0 (b3 + 1)) = s0 111 (s0 0 (b3 + 1)) := (h_upo us193 rfl (s0 0 (b3 + 1))); have gm1_112 : s193 112 (s0 0 (b3 + 1)) = s0 112 (s0 0 (b3 + 1)) := (h_upo us193 rfl (s0 0 (b3 + 1))); have gm2_111 : s227 111 (s0 0 (b3 + 1)) = s0 111 (s0 0 (b3 + 1)) := ((h_upo us227 rfl (s0 0 (b3 + 1))).trans (h_upo us193 rfl (s0 0 (b3 + 1)))); have gm2_112 : s227 112 (s0 0 (b3 + 1)) = s0 112 (s0 0 (b3 + 1)) := ((h_upo us227 rfl (s0 0 (b3 + 1))).trans (h_upo us193 rfl (s0 0 (b3 + 1)))); have gk := g_SH.ar j4 (k := s0 0 (b3 + 1)) (by omega) (by omega); first | exact g_SH.lay j4 (k := s0 0 (b3 + 1)) (i := s0 0 (b3 + 2)) (by omega) (by omega) (by omega) (by omega) (fun j _ _ => (ty_96 I0 j).2.1) (by exfalso; omega) (((h_upg us227 rfl).trans ((h_upf us193).trans (g_set_c rfl))).trans (g_set_e rfl (by omega) rfl)) ((h_upg us227 rfl).trans (h_upg us193 rfl)) ((h_upg us227 rfl).trans (h_upg us193 rfl)) ((h_upg us227 rfl).trans (h_upg us193 rfl)) ((h_upg us227 rfl).trans (h_upg us193 rfl)) ((rfl.trans ((h_upf us227).trans (g_set_c (h_upg us193 rfl)))).trans (g_set_e rfl (by omega) rfl)) | (exfalso; omega)) (Int.le_antisymm (by omega) (by omega))
                  · clear hz220
                    refine h_iload_n (pc' := 69) rfl rfl rfl ?_
                    refine h_bipush (pc' := 71) (x := (Int32.ofInt 24)) rfl rfl cb_24 ?_
                    refine h_ishl (pc' := 72) rfl rfl (fun z228 hz228 => ?_)
                    have kkz228 := hz199
                    refine h_bipush (pc' := 74) (x := (Int32.ofInt 24)) rfl rfl cb_24 ?_
                    refine h_ishr (pc' := 75) rfl rfl (fun z229 hz229 => ?_)
                    refine h_goto (pc' := 99) rfl rfl ?_
                    refine h_iast (pc' := 100) rfl rfl rfl rfl hz219 (by omega) (by omega) rfl (h_fgt (E := fun s => s 64 1 = s0 64 1 ∧ s 98 11 = s0 98 11 ∧ s 64 4 = s0 64 4 ∧ s 98 16 = s0 98 16 ∧ s 90 2 = s0 90 2 ∧ s 98 29 = s0 98 29 ∧ s = h_up s193 113 ((40 * (s0 0 (b3 + 1))) + (s0 0 (b3 + 2))) z229.toInt) _ (in_113 Is193 (h_rgv rfl)) (Fs193.up rfl) ⟨es193.1, es193.2.1, es193.2.2.1, es193.2.2.2.1, es193.2.2.2.2.1, es193.2.2.2.2.2.1, rfl⟩ (fun s230 Is230 Fs230 (es230 : s230 64 1 = s0 64 1 ∧ s230 98 11 = s0 98 11 ∧ s230 64 4 = s0 64 4 ∧ s230 98 16 = s0 98 16 ∧ s230 90 2 = s0 90 2 ∧ s230 98 29 = s0 98 29 ∧ s230 = h_up s193 113 ((40 * (s0 0 (b3 + 1))) + (s0 0 (b3 + 2))) z229.toInt) => ?_))
                    clear es193
                    have us230 := es230.2.2.2.2.2.2
                    have Zs230 : ∀ i, s230 0 i = s0 0 i := fun i => (h_upo us230 rfl i).trans (Zs193 i)
                    clear hz219
                    refine h_iconst (pc' := 101) (x := (Int32.ofInt 1)) rfl rfl rfl ?_
                    refine h_iret rfl rfl (h_Kv ?_)
                    clear hz195 hz197 hz199
                    refine h_pop (pc' := 1349) rfl rfl rfl ?_
                    refine h_goto (pc' := 1441) rfl rfl ?_
                    exact kk _ Is230 (by first | exact d_tape.le j0 (Int.le_antisymm (by omega) (by omega)) (by omega) (fun j => (h_upo us230 rfl j).trans ((h_upo us193 rfl j))) (fun j => (h_upo us230 rfl j).trans ((h_upo us193 rfl j))) | (exfalso; omega)) (Int.le_antisymm (by omega) (by omega)) (c_R.up (c_R.up j2 I0 us193 rfl) Is193 us230 rfl) (g_ti.e j3 ((h_upg us230 rfl).trans (h_upg us193 rfl))) (by have gm1_111 : s193 111 (s0 0 (b3 + 1)) = s0 111 (s0 0 (b3 + 1)) := (h_upo us193 rfl (s0 0 (b3 + 1))); have gm1_112 : s193 112 (s0 0 (b3 + 1)) = s0 112 (s0 0 (b3 + 1)) := (h_upo us193 rfl (s0 0 (b3 + 1))); have gm2_111 : s230 111 (s0 0 (b3 + 1)) = s0 111 (s0 0 (b3 + 1)) := ((h_upo us230 rfl (s0 0 (b3 + 1))).trans (h_upo us193 rfl (s0 0 (b3 + 1)))); have gm2_112 : s230 112 (s0 0 (b3 + 1)) = s0 112 (s0 0 (b3 + 1)) := ((h_upo us230 rfl (s0 0 (b3 + 1))).trans (h_upo us193 rfl (s0 0 (b3 + 1)))); have gk := g_SH.ar j4 (k := s0 0 (b3 + 1)) (by omega) (by omega); first | exact g_SH.lay j4 (k := s0 0 (b3 + 1)) (i := s0 0 (b3 + 2)) (by omega) (by omega) (by omega) (by omega) (fun j _ _ => (ty_96 I0 j).2.1) (g_ly8 hz190 hz228 hz229 (by omega)) (((h_upg us230 rfl).trans ((h_upf us193).trans (g_set_c rfl))).trans (g_set_e rfl (by omega) rfl)) ((h_upg us230 rfl).trans (h_upg us193 rfl)) ((h_upg us230 rfl).trans (h_upg us193 rfl)) ((h_upg us230 rfl).trans (h_upg us193 rfl)) ((h_upg us230 rfl).trans (h_upg us193 rfl)) ((rfl.trans ((h_upf us230).trans (g_set_c (h_upg us193 rfl)))).trans (g_set_e rfl (by omega) rfl)) | (exfalso; omega)) (Int.le_antisymm (by omega) (by omega))
              · clear hz206
                refine h_bipush (pc' := 27) (x := (Int32.ofInt (-11))) rfl rfl cb_m11 ?_
                refine h_iret rfl rfl (h_Kv ?_)
                clear hz195 hz197 hz199
                refine h_pop (pc' := 1349) rfl rfl rfl ?_
                refine h_goto (pc' := 1441) rfl rfl ?_
                exact kk _ Is193 (by first | exact d_tape.le j0 (Int.le_antisymm (by omega) (by omega)) (by omega) (fun j => (h_upo us193 rfl j)) (fun j => (h_upo us193 rfl j)) | (exfalso; omega)) (Int.le_antisymm (by omega) (by omega)) (c_R.up j2 I0 us193 rfl) (g_ti.e j3 (h_upg us193 rfl)) (by exfalso; have gm1_111 : s193 111 (s0 0 (b3 + 1)) = s0 111 (s0 0 (b3 + 1)) := (h_upo us193 rfl (s0 0 (b3 + 1))); have gm1_112 : s193 112 (s0 0 (b3 + 1)) = s0 112 (s0 0 (b3 + 1)) := (h_upo us193 rfl (s0 0 (b3 + 1))); have gk := g_SH.ar j4 (k := s0 0 (b3 + 1)) (by omega) (by omega); omega) (Int.le_antisymm (by omega) (by omega))
      · clear hz35
        refine h_iconst (pc' := 12) (x := (Int32.ofInt 1)) rfl rfl rfl ?_
        refine h_iret rfl rfl (h_Kv ?_)
        clear hz34
        refine h_istore (pc' := 29) (M := [(4, .int (Int32.ofInt 1)), (0, .ref 9), (1, .int z2), (2, .int z4), (3, .int z6)]) rfl rfl rfl rfl ?_
        refine h_iload (pc' := 31) rfl rfl rfl ?_
        refine h_zeq (tg := 40) (pc' := 34) rfl rfl rfl ci_1 (fun c231 => absurd c231 (by omega)) (fun c231 => ?_)
        refine h_bipush (pc' := 36) (x := (Int32.ofInt (-10))) rfl rfl cb_m10 ?_
        refine h_iload (pc' := 38) rfl rfl rfl ?_
        refine h_isub (pc' := 39) (c := (-11)) rfl rfl ci_m10 ci_1 rfl (by omega) (by omega) (fun z232 hz232 => ?_)
        refine h_iret rfl rfl (h_Kv ?_)
        clear hz2 hz4 hz6
        refine h_pop (pc' := 1329) rfl rfl rfl ?_
        clear hz232
        refine h_aload_n (pc' := 1330) rfl rfl rfl ?_
        refine h_aload_n (pc' := 1331) rfl rfl rfl ?_
        refine h_iload_n (pc' := 1332) rfl rfl rfl ?_
        refine h_iconst (pc' := 1333) (x := (Int32.ofInt 1)) rfl rfl rfl ?_
        refine h_iadd (pc' := 1334) rfl rfl hy3 ci_1 rfl (by omega) (by omega) (fun z233 hz233 => ?_)
        refine h_iald (pc' := 1335) (v := s0 0 (b3 + 1)) rfl rfl rfl hz233 (by omega) (by omega) rfl (fun z234 hz234 => ?_)
        have tz234 := h_rgv hz234
        clear hz233
        refine h_aload_n (pc' := 1336) rfl rfl rfl ?_
        refine h_iload_n (pc' := 1337) rfl rfl rfl ?_
        refine h_iconst (pc' := 1338) (x := (Int32.ofInt 2)) rfl rfl rfl ?_
        refine h_iadd (pc' := 1339) rfl rfl hy3 ci_2 rfl (by omega) (by omega) (fun z235 hz235 => ?_)
        refine h_iald (pc' := 1340) (v := s0 0 (b3 + 2)) rfl rfl rfl hz235 (by omega) (by omega) rfl (fun z236 hz236 => ?_)
        have tz236 := h_rgv hz236
        clear hz235
        refine h_aload_n (pc' := 1341) rfl rfl rfl ?_
        refine h_iload_n (pc' := 1342) rfl rfl rfl ?_
        refine h_iconst (pc' := 1343) (x := (Int32.ofInt 3)) rfl rfl rfl ?_
        refine h_iadd (pc' := 1344) rfl rfl hy3 ci_3 rfl (by omega) (by omega) (fun z237 hz237 => ?_)
        refine h_iald (pc' := 1345) (v := s0 0 (b3 + 3)) rfl rfl rfl hz237 (by omega) (by omega) rfl (fun z238 hz238 => ?_)
        have tz238 := h_rgv hz238
        clear hz237
        refine h_call (sp := false) (pc' := 1348) (M := [(0, .ref 98), (1, .int z234), (2, .int z236), (3, .int z238)]) rfl rfl rfl rfl rfl rfl rfl rfl ?_
        refine h_iload_n (pc' := 1) rfl rfl rfl ?_
        refine h_i2l (pc' := 2) rfl rfl hz234 (fun z239 hz239 => ?_)
        refine h_lconst (pc' := 3) (x := (Int64.ofInt 0)) rfl rfl rfl ?_
        refine h_ldc2 (pc' := 6) (x := (Int64.ofInt 3)) rfl rfl rfl ?_
        refine h_calls (pc' := 9) (M := [(0, .long z239), (2, .long (Int64.ofInt 0)), (4, .long (Int64.ofInt 3))]) rfl rfl rfl rfl rfl rfl ?_
        refine h_lload_n (pc' := 1) rfl rfl rfl ?_
        refine h_lload_n (pc' := 2) rfl rfl rfl ?_
        refine h_lcmp (pc' := 3) rfl rfl hz239 cl_0 (fun z240 hz240 => ?_)
        refine h_zlt (tg := 17) (pc' := 6) rfl rfl rfl rfl (fun c241 => absurd c241 (by omega)) (fun c241 => ?_)
        replace c241 := (h_lcr hz240).2.1 c241
        clear hz240
        refine h_lload_n (pc' := 7) rfl rfl rfl ?_
        refine h_lload (pc' := 9) rfl rfl rfl ?_
        refine h_lcmp (pc' := 10) rfl rfl hz239 cl_3 (fun z242 hz242 => ?_)
        refine h_zgt (tg := 17) (pc' := 13) rfl rfl rfl rfl (fun c243 => absurd c243 (by omega)) (fun c243 => ?_)
        replace c243 := (h_lcr hz242).2.2.1 c243
        clear hz242
        refine h_iconst (pc' := 14) (x := (Int32.ofInt 1)) rfl rfl rfl ?_
        refine h_goto (pc' := 18) rfl rfl ?_
        refine h_zret rfl rfl ci_1 (by omega) (h_Kv ?_)
        clear hz239
        refine h_zne (tg := 14) (pc' := 12) rfl rfl rfl ci_1 (fun c244 => ?_) (fun c244 => absurd c244 (by omega))
        refine h_aload_n (pc' := 15) rfl rfl rfl ?_
        refine h_getR (pc' := 18) rfl rfl rfl rfl rfl ?_
        refine h_iload_n (pc' := 19) rfl rfl rfl ?_
        refine h_iald (pc' := 20) (v := s0 111 (s0 0 (b3 + 1))) rfl rfl rfl hz234 (by omega) (by omega) rfl (fun z245 hz245 => ?_)
        have tz245 := ty_111 I0 (s0 0 (b3 + 1))
        refine h_bipush (pc' := 22) (x := (Int32.ofInt (-4))) rfl rfl cb_m4 ?_
        refine h_cne (tg := 28) (pc' := 25) rfl rfl rfl hz245 ci_m4 (fun c246 => ?_) (fun c246 => ?_)
        · clear hz245
          refine h_iload_n (pc' := 29) rfl rfl rfl ?_
          refine h_i2l (pc' := 30) rfl rfl hz236 (fun z247 hz247 => ?_)
          refine h_lconst (pc' := 31) (x := (Int64.ofInt 0)) rfl rfl rfl ?_
          refine h_aload_n (pc' := 32) rfl rfl rfl ?_
          refine h_getR (pc' := 35) rfl rfl rfl rfl rfl ?_
          refine h_iload_n (pc' := 36) rfl rfl rfl ?_
          refine h_iald (pc' := 37) (v := s0 112 (s0 0 (b3 + 1))) rfl rfl rfl hz234 (by omega) (by omega) rfl (fun z248 hz248 => ?_)
          have tz248 := ty_112 I0 (s0 0 (b3 + 1))
          refine h_iconst (pc' := 38) (x := (Int32.ofInt 1)) rfl rfl rfl ?_
          refine h_isub (pc' := 39) rfl rfl hz248 ci_1 rfl (by omega) (by omega) (fun z249 hz249 => ?_)
          clear hz248
          refine h_i2l (pc' := 40) rfl rfl hz249 (fun z250 hz250 => ?_)
          clear hz249
          refine h_calls (pc' := 43) (M := [(0, .long z247), (2, .long (Int64.ofInt 0)), (4, .long z250)]) rfl rfl rfl rfl rfl rfl ?_
          refine h_lload_n (pc' := 1) rfl rfl rfl ?_
          refine h_lload_n (pc' := 2) rfl rfl rfl ?_
          refine h_lcmp (pc' := 3) rfl rfl hz247 cl_0 (fun z251 hz251 => ?_)
          refine h_zlt (tg := 17) (pc' := 6) rfl rfl rfl rfl (fun c252 => ?_) (fun c252 => ?_)
          · replace c252 := (h_lcr hz251).1 c252
            clear hz251
            refine h_iconst (pc' := 18) (x := (Int32.ofInt 0)) rfl rfl rfl ?_
            refine h_zret rfl rfl ci_0 (by omega) (h_Kv ?_)
            clear hz247 hz250
            refine h_zne (tg := 49) (pc' := 46) rfl rfl rfl ci_0 (fun c253 => absurd (Int.le_antisymm (by omega) (by omega)) c253) (fun c253 => ?_)
            refine h_bipush (pc' := 48) (x := (Int32.ofInt (-12))) rfl rfl cb_m12 ?_
            refine h_iret rfl rfl (h_Kv ?_)
            clear hz234 hz236 hz238
            refine h_pop (pc' := 1349) rfl rfl rfl ?_
            refine h_goto (pc' := 1441) rfl rfl ?_
            exact kk _ I0 (by first | exact d_tape.le j0 (Int.le_antisymm (by omega) (by omega)) (by omega) (fun j => rfl) (fun j => rfl) | (exfalso; omega)) (Int.le_antisymm (by omega) (by omega)) j2 (g_ti.e j3 rfl) (g_SH.e j4 rfl rfl rfl rfl rfl rfl) (Int.le_antisymm (by omega) (by omega))
          · replace c252 := (h_lcr hz251).2.1 c252
            clear hz251
            refine h_lload_n (pc' := 7) rfl rfl rfl ?_
            refine h_lload (pc' := 9) rfl rfl rfl ?_
            refine h_lcmp (pc' := 10) rfl rfl hz247 hz250 (fun z254 hz254 => ?_)
            refine h_zgt (tg := 17) (pc' := 13) rfl rfl rfl rfl (fun c255 => ?_) (fun c255 => ?_)
            · replace c255 := (h_lcr hz254).2.2.2.1 c255
              clear hz254
              refine h_iconst (pc' := 18) (x := (Int32.ofInt 0)) rfl rfl rfl ?_
              refine h_zret rfl rfl ci_0 (by omega) (h_Kv ?_)
              clear hz247 hz250
              refine h_zne (tg := 49) (pc' := 46) rfl rfl rfl ci_0 (fun c256 => absurd (Int.le_antisymm (by omega) (by omega)) c256) (fun c256 => ?_)
              refine h_bipush (pc' := 48) (x := (Int32.ofInt (-12))) rfl rfl cb_m12 ?_
              refine h_iret rfl rfl (h_Kv ?_)
              clear hz234 hz236 hz238
              refine h_pop (pc' := 1349) rfl rfl rfl ?_
              refine h_goto (pc' := 1441) rfl rfl ?_
              exact kk _ I0 (by first | exact d_tape.le j0 (Int.le_antisymm (by omega) (by omega)) (by omega) (fun j => rfl) (fun j => rfl) | (exfalso; omega)) (Int.le_antisymm (by omega) (by omega)) j2 (g_ti.e j3 rfl) (g_SH.e j4 rfl rfl rfl rfl rfl rfl) (Int.le_antisymm (by omega) (by omega))
            · replace c255 := (h_lcr hz254).2.2.1 c255
              clear hz254
              refine h_iconst (pc' := 14) (x := (Int32.ofInt 1)) rfl rfl rfl ?_
              refine h_goto (pc' := 18) rfl rfl ?_
              refine h_zret rfl rfl ci_1 (by omega) (h_Kv ?_)
              clear hz247 hz250
              refine h_zne (tg := 49) (pc' := 46) rfl rfl rfl ci_1 (fun c257 => ?_) (fun c257 => absurd c257 (by omega))
              refine h_aload_n (pc' := 50) rfl rfl rfl ?_
              refine h_getR (pc' := 53) rfl rfl rfl rfl rfl ?_
              refine h_bipush (pc' := 55) (x := (Int32.ofInt 40)) rfl rfl cb_40 ?_
              refine h_iload_n (pc' := 56) rfl rfl rfl ?_
              refine h_imul (pc' := 57) rfl rfl ci_40 hz234 rfl (by have g0 := h_rgv hz234; omega) (by have g0 := h_rgv hz234; omega) (fun z258 hz258 => ?_)
              refine h_iload_n (pc' := 58) rfl rfl rfl ?_
              refine h_iadd (pc' := 59) rfl rfl hz258 hz236 rfl (by have g0 := h_rgv hz236; omega) (by have g0 := h_rgv hz236; omega) (fun z259 hz259 => ?_)
              clear hz258
              refine h_aload_n (pc' := 60) rfl rfl rfl ?_
              refine h_getR (pc' := 63) rfl rfl rfl rfl rfl ?_
              refine h_iload_n (pc' := 64) rfl rfl rfl ?_
              refine h_iald (pc' := 65) (v := s0 111 (s0 0 (b3 + 1))) rfl rfl rfl hz234 (by omega) (by omega) rfl (fun z260 hz260 => ?_)
              refine h_zne (tg := 78) (pc' := 68) rfl rfl rfl hz260 (fun c261 => ?_) (fun c261 => ?_)
              · clear hz260
                refine h_aload_n (pc' := 79) rfl rfl rfl ?_
                refine h_getR (pc' := 82) rfl rfl rfl rfl rfl ?_
                refine h_iload_n (pc' := 83) rfl rfl rfl ?_
                refine h_iald (pc' := 84) (v := s0 111 (s0 0 (b3 + 1))) rfl rfl rfl hz234 (by omega) (by omega) rfl (fun z262 hz262 => ?_)
                refine h_iconst (pc' := 85) (x := (Int32.ofInt 1)) rfl rfl rfl ?_
                refine h_cne (tg := 98) (pc' := 88) rfl rfl rfl hz262 ci_1 (fun c263 => ?_) (fun c263 => ?_)
                · clear hz262
                  refine h_iload_n (pc' := 99) rfl rfl rfl ?_
                  refine h_iast (pc' := 100) rfl rfl rfl rfl hz259 (by omega) (by omega) hz238 (h_fgt (E := fun s => s 64 1 = s0 64 1 ∧ s 98 11 = s0 98 11 ∧ s 64 4 = s0 64 4 ∧ s 98 16 = s0 98 16 ∧ s 90 2 = s0 90 2 ∧ s 98 29 = s0 98 29 ∧ s = h_up s0 113 ((40 * (s0 0 (b3 + 1))) + (s0 0 (b3 + 2))) (s0 0 (b3 + 3))) _ (in_113 I0 (h_rgv hz238)) (F0_.up rfl) ⟨rfl, rfl, rfl, rfl, rfl, rfl, rfl⟩ (fun s264 Is264 Fs264 (es264 : s264 64 1 = s0 64 1 ∧ s264 98 11 = s0 98 11 ∧ s264 64 4 = s0 64 4 ∧ s264 98 16 = s0 98 16 ∧ s264 90 2 = s0 90 2 ∧ s264 98 29 = s0 98 29 ∧ s264 = h_up s0 113 ((40 * (s0 0 (b3 + 1))) + (s0 0 (b3 + 2))) (s0 0 (b3 + 3))) => ?_))
                  have us264 := es264.2.2.2.2.2.2
                  have Zs264 : ∀ i, s264 0 i = s0 0 i := fun i => (h_upo us264 rfl i).trans rfl
                  clear hz259
                  refine h_iconst (pc' := 101) (x := (Int32.ofInt 1)) rfl rfl rfl ?_
                  refine h_iret rfl rfl (h_Kv ?_)
                  clear hz234 hz236 hz238
                  refine h_pop (pc' := 1349) rfl rfl rfl ?_
                  refine h_goto (pc' := 1441) rfl rfl ?_
                  exact kk _ Is264 (by first | exact d_tape.le j0 (Int.le_antisymm (by omega) (by omega)) (by omega) (fun j => (h_upo us264 rfl j)) (fun j => (h_upo us264 rfl j)) | (exfalso; omega)) (Int.le_antisymm (by omega) (by omega)) (c_R.up j2 I0 us264 rfl) (g_ti.e j3 (h_upg us264 rfl)) (by exfalso; have gm1_111 : s264 111 (s0 0 (b3 + 1)) = s0 111 (s0 0 (b3 + 1)) := (h_upo us264 rfl (s0 0 (b3 + 1))); have gm1_112 : s264 112 (s0 0 (b3 + 1)) = s0 112 (s0 0 (b3 + 1)) := (h_upo us264 rfl (s0 0 (b3 + 1))); have gk := g_SH.ar j4 (k := s0 0 (b3 + 1)) (by omega) (by omega); omega) (Int.le_antisymm (by omega) (by omega))
                · clear hz262
                  refine h_iload_n (pc' := 89) rfl rfl rfl ?_
                  refine h_bipush (pc' := 91) (x := (Int32.ofInt 16)) rfl rfl cb_16 ?_
                  refine h_ishl (pc' := 92) rfl rfl (fun z265 hz265 => ?_)
                  have kkz265 := hz238
                  refine h_bipush (pc' := 94) (x := (Int32.ofInt 16)) rfl rfl cb_16 ?_
                  refine h_ishr (pc' := 95) rfl rfl (fun z266 hz266 => ?_)
                  refine h_goto (pc' := 99) rfl rfl ?_
                  refine h_iast (pc' := 100) rfl rfl rfl rfl hz259 (by omega) (by omega) rfl (h_fgt (E := fun s => s 64 1 = s0 64 1 ∧ s 98 11 = s0 98 11 ∧ s 64 4 = s0 64 4 ∧ s 98 16 = s0 98 16 ∧ s 90 2 = s0 90 2 ∧ s 98 29 = s0 98 29 ∧ s = h_up s0 113 ((40 * (s0 0 (b3 + 1))) + (s0 0 (b3 + 2))) z266.toInt) _ (in_113 I0 (h_rgv rfl)) (F0_.up rfl) ⟨rfl, rfl, rfl, rfl, rfl, rfl, rfl⟩ (fun s267 Is267 Fs267 (es267 : s267 64 1 = s0 64 1 ∧ s267 98 11 = s0 98 11 ∧ s267 64 4 = s0 64 4 ∧ s267 98 16 = s0 98 16 ∧ s267 90 2 = s0 90 2 ∧ s267 98 29 = s0 98 29 ∧ s267 = h_up s0 113 ((40 * (s0 0 (b3 + 1))) + (s0 0 (b3 + 2))) z266.toInt) => ?_))
                  have us267 := es267.2.2.2.2.2.2
                  have Zs267 : ∀ i, s267 0 i = s0 0 i := fun i => (h_upo us267 rfl i).trans rfl
                  clear hz259
                  refine h_iconst (pc' := 101) (x := (Int32.ofInt 1)) rfl rfl rfl ?_
                  refine h_iret rfl rfl (h_Kv ?_)
                  clear hz234 hz236 hz238
                  refine h_pop (pc' := 1349) rfl rfl rfl ?_
                  refine h_goto (pc' := 1441) rfl rfl ?_
                  exact kk _ Is267 (by first | exact d_tape.le j0 (Int.le_antisymm (by omega) (by omega)) (by omega) (fun j => (h_upo us267 rfl j)) (fun j => (h_upo us267 rfl j)) | (exfalso; omega)) (Int.le_antisymm (by omega) (by omega)) (c_R.up j2 I0 us267 rfl) (g_ti.e j3 (h_upg us267 rfl)) (by exfalso; have gm1_111 : s267 111 (s0 0 (b3 + 1)) = s0 111 (s0 0 (b3 + 1)) := (h_upo us267 rfl (s0 0 (b3 + 1))); have gm1_112 : s267 112 (s0 0 (b3 + 1)) = s0 112 (s0 0 (b3 + 1)) := (h_upo us267 rfl (s0 0 (b3 + 1))); have gk := g_SH.ar j4 (k := s0 0 (b3 + 1)) (by omega) (by omega); omega) (Int.le_antisymm (by omega) (by omega))
              · clear hz260
                refine h_iload_n (pc' := 69) rfl rfl rfl ?_
                refine h_bipush (pc' := 71) (x := (Int32.ofInt 24)) rfl rfl cb_24 ?_
                refine h_ishl (pc' := 72) rfl rfl (fun z268 hz268 => ?_)
                have kkz268 := hz238
                refine h_bipush (pc' := 74) (x := (Int32.ofInt 24)) rfl rfl cb_24 ?_
                refine h_ishr (pc' := 75) rfl rfl (fun z269 hz269 => ?_)
                refine h_goto (pc' := 99) rfl rfl ?_
                refine h_iast (pc' := 100) rfl rfl rfl rfl hz259 (by omega) (by omega) rfl (h_fgt (E := fun s => s 64 1 = s0 64 1 ∧ s 98 11 = s0 98 11 ∧ s 64 4 = s0 64 4 ∧ s 98 16 = s0 98 16 ∧ s 90 2 = s0 90 2 ∧ s 98 29 = s0 98 29 ∧ s = h_up s0 113 ((40 * (s0 0 (b3 + 1))) + (s0 0 (b3 + 2))) z269.toInt) _ (in_113 I0 (h_rgv rfl)) (F0_.up rfl) ⟨rfl, rfl, rfl, rfl, rfl, rfl, rfl⟩ (fun s270 Is270 Fs270 (es270 : s270 64 1 = s0 64 1 ∧ s270 98 11 = s0 98 11 ∧ s270 64 4 = s0 64 4 ∧ s270 98 16 = s0 98 16 ∧ s270 90 2 = s0 90 2 ∧ s270 98 29 = s0 98 29 ∧ s270 = h_up s0 113 ((40 * (s0 0 (b3 + 1))) + (s0 0 (b3 + 2))) z269.toInt) => ?_))
                have us270 := es270.2.2.2.2.2.2
                have Zs270 : ∀ i, s270 0 i = s0 0 i := fun i => (h_upo us270 rfl i).trans rfl
                clear hz259
                refine h_iconst (pc' := 101) (x := (Int32.ofInt 1)) rfl rfl rfl ?_
                refine h_iret rfl rfl (h_Kv ?_)
                clear hz234 hz236 hz238
                refine h_pop (pc' := 1349) rfl rfl rfl ?_
                refine h_goto (pc' := 1441) rfl rfl ?_
                exact kk _ Is270 (by first | exact d_tape.le j0 (Int.le_antisymm (by omega) (by omega)) (by omega) (fun j => (h_upo us270 rfl j)) (fun j => (h_upo us270 rfl j)) | (exfalso; omega)) (Int.le_antisymm (by omega) (by omega)) (c_R.up j2 I0 us270 rfl) (g_ti.e j3 (h_upg us270 rfl)) (by exfalso; have gm1_111 : s270 111 (s0 0 (b3 + 1)) = s0 111 (s0 0 (b3 + 1)) := (h_upo us270 rfl (s0 0 (b3 + 1))); have gm1_112 : s270 112 (s0 0 (b3 + 1)) = s0 112 (s0 0 (b3 + 1)) := (h_upo us270 rfl (s0 0 (b3 + 1))); have gk := g_SH.ar j4 (k := s0 0 (b3 + 1)) (by omega) (by omega); omega) (Int.le_antisymm (by omega) (by omega))
        · clear hz245
          refine h_bipush (pc' := 27) (x := (Int32.ofInt (-11))) rfl rfl cb_m11 ?_
          refine h_iret rfl rfl (h_Kv ?_)
          clear hz234 hz236 hz238
          refine h_pop (pc' := 1349) rfl rfl rfl ?_
          refine h_goto (pc' := 1441) rfl rfl ?_
          exact kk _ I0 (by first | exact d_tape.le j0 (Int.le_antisymm (by omega) (by omega)) (by omega) (fun j => rfl) (fun j => rfl) | (exfalso; omega)) (Int.le_antisymm (by omega) (by omega)) j2 (g_ti.e j3 rfl) (g_SH.e j4 rfl rfl rfl rfl rfl rfl) (Int.le_antisymm (by omega) (by omega))
