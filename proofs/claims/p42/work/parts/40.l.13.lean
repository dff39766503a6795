set_option maxHeartbeats 100000000 in
theorem g_case_1026 {ns : Nat} (hns : ns ≤ 320) (s0 : h_S) (I0 : h_I s0) (j0 : d_tape s0 s0) (j1 : s0 64 4 = s0 98 16) (j2 : c_R true s0) (j3 : g_ti s0) (j4 : g_SH s0) (j5 : s0 90 2 = s0 98 29) (y3 : Int32) (b3 : Int) (hy3 : y3.toInt = b3) (hr : 0 ≤ b3 ∧ b3 + 5 ≤ ns) {Q : Option Value → h_S → Prop} (kk : ∀ τ, h_I τ → (d_tape τ τ) → (τ 64 4 = τ 98 16) → (c_R true τ) → (g_ti τ) → (g_SH τ) → (τ 90 2 = τ 98 29) → h_T g_P (g_Y ns) 225 1441 [(0, .ref 0), (1, .ref 9), (2, .ref 98), (3, .int y3)] [] τ Q) : h_T g_P (g_Y ns) 225 1026 [(0, .ref 0), (1, .ref 9), (2, .ref 98), (3, .int y3)] [] s0 Q := by
  have F0_ : h_F (fun _ _ => true) s0 s0 := h_F.rf
  have j0_ := j0.2
  have i0 := tf_64_1 I0
  have i1 := tf_98_11 I0
  have i2 := tf_64_4 I0
  have i3 := tf_98_16 I0
  have i4 := tf_90_2 I0
  have i5 := tf_98_29 I0
  refine h_aload_n (pc' := 1027) rfl rfl rfl ?_
  refine h_aload_n (pc' := 1028) rfl rfl rfl ?_
  refine h_iload_n (pc' := 1029) rfl rfl rfl ?_
  refine h_iconst (pc' := 1030) (x := (Int32.ofInt 1)) rfl rfl rfl ?_
  refine h_iadd (pc' := 1031) rfl rfl hy3 ci_1 rfl (by omega) (by omega) (fun z1 hz1 => ?_)
  refine h_iald (pc' := 1032) (v := s0 0 (b3 + 1)) rfl rfl rfl hz1 (by omega) (by omega) rfl (fun z2 hz2 => ?_)
  have tz2 := h_rgv hz2
  clear hz1
  refine h_aload_n (pc' := 1033) rfl rfl rfl ?_
  refine h_iload_n (pc' := 1034) rfl rfl rfl ?_
  refine h_iconst (pc' := 1035) (x := (Int32.ofInt 2)) rfl rfl rfl ?_
  refine h_iadd (pc' := 1036) rfl rfl hy3 ci_2 rfl (by omega) (by omega) (fun z3 hz3 => ?_)
  refine h_iald (pc' := 1037) (v := s0 0 (b3 + 2)) rfl rfl rfl hz3 (by omega) (by omega) rfl (fun z4 hz4 => ?_)
  have tz4 := h_rgv hz4
  clear hz3
  refine h_zeq (tg := 1044) (pc' := 1040) rfl rfl rfl hz4 (fun c5 => ?_) (fun c5 => ?_)
  · clear hz4
    refine h_iconst (pc' := 1045) (x := (Int32.ofInt 0)) rfl rfl rfl ?_
    refine h_call (sp := false) (pc' := 1048) (M := [(0, .ref 9), (1, .int z2), (2, .int (Int32.ofInt 0))]) rfl rfl rfl rfl rfl rfl rfl rfl ?_
    refine h_iload_n (pc' := 1) rfl rfl rfl ?_
    refine h_zlt (tg := 10) (pc' := 4) rfl rfl rfl hz2 (fun c6 => ?_) (fun c6 => ?_)
    · refine h_iconst (pc' := 11) (x := (Int32.ofInt (-1))) rfl rfl rfl ?_
      refine h_iret rfl rfl (h_Kv ?_)
      clear hz2
      refine h_pop (pc' := 1049) rfl rfl rfl ?_
      refine h_aload_n (pc' := 1050) rfl rfl rfl ?_
      refine h_aload_n (pc' := 1051) rfl rfl rfl ?_
      refine h_iload_n (pc' := 1052) rfl rfl rfl ?_
      refine h_iconst (pc' := 1053) (x := (Int32.ofInt 1)) rfl rfl rfl ?_
      refine h_iadd (pc' := 1054) rfl rfl hy3 ci_1 rfl (by omega) (by omega) (fun z7 hz7 => ?_)
      refine h_iald (pc' := 1055) (v := s0 0 (b3 + 1)) rfl rfl rfl hz7 (by omega) (by omega) rfl (fun z8 hz8 => ?_)
      have tz8 := h_rgv hz8
      clear hz7
      refine h_aload_n (pc' := 1056) rfl rfl rfl ?_
      refine h_iload_n (pc' := 1057) rfl rfl rfl ?_
      refine h_iconst (pc' := 1058) (x := (Int32.ofInt 2)) rfl rfl rfl ?_
      refine h_iadd (pc' := 1059) rfl rfl hy3 ci_2 rfl (by omega) (by omega) (fun z9 hz9 => ?_)
      refine h_iald (pc' := 1060) (v := s0 0 (b3 + 2)) rfl rfl rfl hz9 (by omega) (by omega) rfl (fun z10 hz10 => ?_)
      have tz10 := h_rgv hz10
      clear hz9
      refine h_zeq (tg := 1067) (pc' := 1063) rfl rfl rfl hz10 (fun c11 => ?_) (fun c11 => absurd (Int.le_antisymm (by omega) (by omega)) c11)
      clear hz10
      refine h_iconst (pc' := 1068) (x := (Int32.ofInt 0)) rfl rfl rfl ?_
      refine h_call (sp := false) (pc' := 1071) (M := [(0, .ref 98), (1, .int z8), (2, .int (Int32.ofInt 0))]) rfl rfl rfl rfl rfl rfl rfl rfl ?_
      refine h_iload_n (pc' := 1) rfl rfl rfl ?_
      refine h_i2l (pc' := 2) rfl rfl hz8 (fun z12 hz12 => ?_)
      refine h_lconst (pc' := 3) (x := (Int64.ofInt 0)) rfl rfl rfl ?_
      refine h_ldc2 (pc' := 6) (x := (Int64.ofInt 7)) rfl rfl rfl ?_
      refine h_calls (pc' := 9) (M := [(0, .long z12), (2, .long (Int64.ofInt 0)), (4, .long (Int64.ofInt 7))]) rfl rfl rfl rfl rfl rfl ?_
      refine h_lload_n (pc' := 1) rfl rfl rfl ?_
      refine h_lload_n (pc' := 2) rfl rfl rfl ?_
      refine h_lcmp (pc' := 3) rfl rfl hz12 cl_0 (fun z13 hz13 => ?_)
      refine h_zlt (tg := 17) (pc' := 6) rfl rfl rfl rfl (fun c14 => ?_) (fun c14 => absurd c14 (by omega))
      replace c14 := (h_lcr hz13).1 c14
      clear hz13
      refine h_iconst (pc' := 18) (x := (Int32.ofInt 0)) rfl rfl rfl ?_
      refine h_zret rfl rfl ci_0 (by omega) (h_Kv ?_)
      clear hz12
      refine h_zne (tg := 14) (pc' := 12) rfl rfl rfl ci_0 (fun c15 => absurd (Int.le_antisymm (by omega) (by omega)) c15) (fun c15 => ?_)
      refine h_iconst (pc' := 13) (x := (Int32.ofInt (-1))) rfl rfl rfl ?_
      refine h_iret rfl rfl (h_Kv ?_)
      clear hz8
      refine h_pop (pc' := 1072) rfl rfl rfl ?_
      refine h_goto (pc' := 1441) rfl rfl ?_
      exact kk _ I0 (by first | exact d_tape.le j0 (Int.le_antisymm (by omega) (by omega)) (by omega) (fun j => rfl) (fun j => rfl) | (exfalso; omega)) (Int.le_antisymm (by omega) (by omega)) j2 (g_ti.e j3 rfl) (g_SH.e j4 rfl rfl rfl rfl rfl rfl) (Int.le_antisymm (by omega) (by omega))
    · refine h_iload_n (pc' := 5) rfl rfl rfl ?_
      refine h_bipush (pc' := 7) (x := (Int32.ofInt 8)) rfl rfl cb_8 ?_
      refine h_clt (tg := 12) (pc' := 10) rfl rfl rfl hz2 ci_8 (fun c16 => ?_) (fun c16 => ?_)
      · refine h_aload_n (pc' := 13) rfl rfl rfl ?_
        refine h_getR (pc' := 16) rfl rfl rfl rfl rfl ?_
        refine h_iload_n (pc' := 17) rfl rfl rfl ?_
        refine h_iload_n (pc' := 18) rfl rfl rfl ?_
        refine h_call (sp := false) (pc' := 21) (M := [(0, .ref 90), (1, .int z2), (2, .int (Int32.ofInt 0))]) rfl rfl rfl rfl rfl rfl rfl rfl ?_
        refine h_aload_n (pc' := 1) rfl rfl rfl ?_
        refine h_getI (pc' := 4) (v := s0 90 2) rfl rfl rfl rfl rfl rfl (fun z17 hz17 => ?_)
        have tz17 := tf_90_2 I0
        refine h_bipush (pc' := 6) (x := (Int32.ofInt 6)) rfl rfl cb_6 ?_
        refine h_clt (tg := 11) (pc' := 9) rfl rfl rfl hz17 ci_6 (fun c18 => ?_) (fun c18 => ?_)
        · clear hz17
          refine h_aload_n (pc' := 12) rfl rfl rfl ?_
          refine h_getR (pc' := 15) rfl rfl rfl rfl rfl ?_
          refine h_aload_n (pc' := 16) rfl rfl rfl ?_
          refine h_getI (pc' := 19) (v := s0 90 2) rfl rfl rfl rfl rfl rfl (fun z19 hz19 => ?_)
          refine h_iload_n (pc' := 20) rfl rfl rfl ?_
          refine h_iast (pc' := 21) rfl rfl rfl rfl hz19 (by omega) (by omega) hz2 (h_fgt (E := fun s => s 64 1 = s0 64 1 ∧ s 98 11 = s0 98 11 ∧ s 64 4 = s0 64 4 ∧ s 98 16 = s0 98 16 ∧ s 90 2 = s0 90 2 ∧ s 98 29 = s0 98 29 ∧ s = h_up s0 91 (s0 90 2) (s0 0 (b3 + 1))) _ (in_91 I0 (by omega)) (F0_.up rfl) ⟨rfl, rfl, rfl, rfl, rfl, rfl, rfl⟩ (fun s20 Is20 Fs20 (es20 : s20 64 1 = s0 64 1 ∧ s20 98 11 = s0 98 11 ∧ s20 64 4 = s0 64 4 ∧ s20 98 16 = s0 98 16 ∧ s20 90 2 = s0 90 2 ∧ s20 98 29 = s0 98 29 ∧ s20 = h_up s0 91 (s0 90 2) (s0 0 (b3 + 1))) => ?_))
          have us20 := es20.2.2.2.2.2.2
          have Zs20 : ∀ i, s20 0 i = s0 0 i := fun i => (h_upo us20 rfl i).trans rfl
          clear hz19
          refine h_aload_n (pc' := 22) rfl rfl rfl ?_
          refine h_getR (pc' := 25) rfl rfl rfl rfl rfl ?_
          refine h_aload_n (pc' := 26) rfl rfl rfl ?_
          refine h_getI (pc' := 29) (v := s0 90 2) rfl rfl rfl rfl rfl es20.2.2.2.2.1 (fun z21 hz21 => ?_)
          refine h_iload_n (pc' := 30) rfl rfl rfl ?_
          refine h_bast (pc' := 31) rfl rfl rfl rfl hz21 (by omega) (by omega) ci_0 (by omega) (h_fgt (E := fun s => s 64 1 = s0 64 1 ∧ s 98 11 = s0 98 11 ∧ s 64 4 = s0 64 4 ∧ s 98 16 = s0 98 16 ∧ s 90 2 = s0 90 2 ∧ s 98 29 = s0 98 29 ∧ s = h_up s20 92 (s0 90 2) 0) _ (in_92 Is20 (by omega)) (Fs20.up rfl) ⟨es20.1, es20.2.1, es20.2.2.1, es20.2.2.2.1, es20.2.2.2.2.1, es20.2.2.2.2.2.1, rfl⟩ (fun s22 Is22 Fs22 (es22 : s22 64 1 = s0 64 1 ∧ s22 98 11 = s0 98 11 ∧ s22 64 4 = s0 64 4 ∧ s22 98 16 = s0 98 16 ∧ s22 90 2 = s0 90 2 ∧ s22 98 29 = s0 98 29 ∧ s22 = h_up s20 92 (s0 90 2) 0) => ?_))
          clear es20
          have us22 := es22.2.2.2.2.2.2
          have Zs22 : ∀ i, s22 0 i = s0 0 i := fun i => (h_upo us22 rfl i).trans (Zs20 i)
          clear hz21
          refine h_aload_n (pc' := 32) rfl rfl rfl ?_
          refine h_dup (pc' := 33) rfl rfl rfl ?_
          refine h_getI (pc' := 36) (v := s0 90 2) rfl rfl rfl rfl rfl es22.2.2.2.2.1 (fun z23 hz23 => ?_)
          refine h_iconst (pc' := 37) (x := (Int32.ofInt 1)) rfl rfl rfl ?_
          refine h_iadd (pc' := 38) rfl rfl hz23 ci_1 rfl (by omega) (by omega) (fun z24 hz24 => ?_)
          clear hz23
          refine h_put (pc' := 41) rfl rfl rfl rfl rfl rfl hz24 rfl (h_fgt (E := fun s => s 64 1 = s0 64 1 ∧ s 98 11 = s0 98 11 ∧ s 64 4 = s0 64 4 ∧ s 98 16 = s0 98 16 ∧ s 90 2 = ((s0 90 2) + 1) ∧ s 98 29 = s0 98 29 ∧ s = h_up s22 90 2 ((s0 90 2) + 1)) _ (if_90_2 Is22 (by omega)) (Fs22.up rfl) ⟨es22.1, es22.2.1, es22.2.2.1, es22.2.2.2.1, rfl, es22.2.2.2.2.2.1, rfl⟩ (fun s25 Is25 Fs25 (es25 : s25 64 1 = s0 64 1 ∧ s25 98 11 = s0 98 11 ∧ s25 64 4 = s0 64 4 ∧ s25 98 16 = s0 98 16 ∧ s25 90 2 = ((s0 90 2) + 1) ∧ s25 98 29 = s0 98 29 ∧ s25 = h_up s22 90 2 ((s0 90 2) + 1)) => ?_))
          clear es22
          have us25 := es25.2.2.2.2.2.2
          have Zs25 : ∀ i, s25 0 i = s0 0 i := fun i => (h_upo us25 rfl i).trans (Zs22 i)
          refine h_iconst (pc' := 42) (x := (Int32.ofInt 1)) rfl rfl rfl ?_
          refine h_zret rfl rfl ci_1 (by omega) (h_Kv ?_)
          refine h_zeq (tg := 34) (pc' := 24) rfl rfl rfl ci_1 (fun c26 => absurd c26 (by omega)) (fun c26 => ?_)
          refine h_aload_n (pc' := 25) rfl rfl rfl ?_
          refine h_getR (pc' := 28) rfl rfl rfl rfl rfl ?_
          refine h_getI (pc' := 31) (v := ((s0 90 2) + 1)) rfl rfl rfl rfl rfl es25.2.2.2.2.1 (fun z27 hz27 => ?_)
          refine h_goto (pc' := 36) rfl rfl ?_
          refine h_iret rfl rfl (h_Kv ?_)
          clear hz2
          refine h_pop (pc' := 1049) rfl rfl rfl ?_
          clear hz27
          refine h_aload_n (pc' := 1050) rfl rfl rfl ?_
          refine h_aload_n (pc' := 1051) rfl rfl rfl ?_
          refine h_iload_n (pc' := 1052) rfl rfl rfl ?_
          refine h_iconst (pc' := 1053) (x := (Int32.ofInt 1)) rfl rfl rfl ?_
          refine h_iadd (pc' := 1054) rfl rfl hy3 ci_1 rfl (by omega) (by omega) (fun z28 hz28 => ?_)
          refine h_iald (pc' := 1055) (v := s0 0 (b3 + 1)) rfl rfl rfl hz28 (by omega) (by omega) (Zs25 _) (fun z29 hz29 => ?_)
          have tz29 := h_rgv hz29
          clear hz28
          refine h_aload_n (pc' := 1056) rfl rfl rfl ?_
          refine h_iload_n (pc' := 1057) rfl rfl rfl ?_
          refine h_iconst (pc' := 1058) (x := (Int32.ofInt 2)) rfl rfl rfl ?_
          refine h_iadd (pc' := 1059) rfl rfl hy3 ci_2 rfl (by omega) (by omega) (fun z30 hz30 => ?_)
          refine h_iald (pc' := 1060) (v := s0 0 (b3 + 2)) rfl rfl rfl hz30 (by omega) (by omega) (Zs25 _) (fun z31 hz31 => ?_)
          have tz31 := h_rgv hz31
          clear hz30
          refine h_zeq (tg := 1067) (pc' := 1063) rfl rfl rfl hz31 (fun c32 => ?_) (fun c32 => absurd (Int.le_antisymm (by omega) (by omega)) c32)
          clear hz31
          refine h_iconst (pc' := 1068) (x := (Int32.ofInt 0)) rfl rfl rfl ?_
          refine h_call (sp := false) (pc' := 1071) (M := [(0, .ref 98), (1, .int z29), (2, .int (Int32.ofInt 0))]) rfl rfl rfl rfl rfl rfl rfl rfl ?_
          refine h_iload_n (pc' := 1) rfl rfl rfl ?_
          refine h_i2l (pc' := 2) rfl rfl hz29 (fun z33 hz33 => ?_)
          refine h_lconst (pc' := 3) (x := (Int64.ofInt 0)) rfl rfl rfl ?_
          refine h_ldc2 (pc' := 6) (x := (Int64.ofInt 7)) rfl rfl rfl ?_
          refine h_calls (pc' := 9) (M := [(0, .long z33), (2, .long (Int64.ofInt 0)), (4, .long (Int64.ofInt 7))]) rfl rfl rfl rfl rfl rfl ?_
          refine h_lload_n (pc' := 1) rfl rfl rfl ?_
          refine h_lload_n (pc' := 2) rfl rfl rfl ?_
          refine h_lcmp (pc' := 3) rfl rfl hz33 cl_0 (fun z34 hz34 => ?_)
          refine h_zlt (tg := 17) (pc' := 6) rfl rfl rfl rfl (fun c35 => absurd c35 (by omega)) (fun c35 => ?_)
          replace c35 := (h_lcr hz34).2.1 c35
          clear hz34
          refine h_lload_n (pc' := 7) rfl rfl rfl ?_
          refine h_lload (pc' := 9) rfl rfl rfl ?_
          refine h_lcmp (pc' := 10) rfl rfl hz33 cl_7 (fun z36 hz36 => ?_)
          refine h_zgt (tg := 17) (pc' := 13) rfl rfl rfl rfl (fun c37 => absurd c37 (by omega)) (fun c37 => ?_)
          replace c37 := (h_lcr hz36).2.2.1 c37
          clear hz36
          refine h_iconst (pc' := 14) (x := (Int32.ofInt 1)) rfl rfl rfl ?_
          refine h_goto (pc' := 18) rfl rfl ?_
          refine h_zret rfl rfl ci_1 (by omega) (h_Kv ?_)
          clear hz33
          refine h_zne (tg := 14) (pc' := 12) rfl rfl rfl ci_1 (fun c38 => ?_) (fun c38 => absurd c38 (by omega))
          refine h_aload_n (pc' := 15) rfl rfl rfl ?_
          refine h_getI (pc' := 18) (v := s0 98 29) rfl rfl rfl rfl rfl es25.2.2.2.2.2.1 (fun z39 hz39 => ?_)
          have tz39 := tf_98_29 I0
          refine h_bipush (pc' := 20) (x := (Int32.ofInt 6)) rfl rfl cb_6 ?_
          refine h_cne (tg := 26) (pc' := 23) rfl rfl rfl hz39 ci_6 (fun c40 => ?_) (fun c40 => absurd c40 (by omega))
          clear hz39
          refine h_aload_n (pc' := 27) rfl rfl rfl ?_
          refine h_getR (pc' := 30) rfl rfl rfl rfl rfl ?_
          refine h_iconst (pc' := 31) (x := (Int32.ofInt 2)) rfl rfl rfl ?_
          refine h_aload_n (pc' := 32) rfl rfl rfl ?_
          refine h_getI (pc' := 35) (v := s0 98 29) rfl rfl rfl rfl rfl es25.2.2.2.2.2.1 (fun z41 hz41 => ?_)
          refine h_imul (pc' := 36) rfl rfl ci_2 hz41 rfl (by omega) (by omega) (fun z42 hz42 => ?_)
          clear hz41
          refine h_iload_n (pc' := 37) rfl rfl rfl ?_
          refine h_iast (pc' := 38) rfl rfl rfl rfl hz42 (by omega) (by omega) hz29 (h_fgt (E := fun s => s 64 1 = s0 64 1 ∧ s 98 11 = s0 98 11 ∧ s 64 4 = s0 64 4 ∧ s 98 16 = s0 98 16 ∧ s 90 2 = ((s0 90 2) + 1) ∧ s 98 29 = s0 98 29 ∧ s = h_up s25 108 (2 * (s0 98 29)) (s0 0 (b3 + 1))) _ (in_108 Is25 (h_rgv hz29)) (Fs25.up rfl) ⟨es25.1, es25.2.1, es25.2.2.1, es25.2.2.2.1, es25.2.2.2.2.1, es25.2.2.2.2.2.1, rfl⟩ (fun s43 Is43 Fs43 (es43 : s43 64 1 = s0 64 1 ∧ s43 98 11 = s0 98 11 ∧ s43 64 4 = s0 64 4 ∧ s43 98 16 = s0 98 16 ∧ s43 90 2 = ((s0 90 2) + 1) ∧ s43 98 29 = s0 98 29 ∧ s43 = h_up s25 108 (2 * (s0 98 29)) (s0 0 (b3 + 1))) => ?_))
          clear es25
          have us43 := es43.2.2.2.2.2.2
          have Zs43 : ∀ i, s43 0 i = s0 0 i := fun i => (h_upo us43 rfl i).trans (Zs25 i)
          clear hz42
          refine h_aload_n (pc' := 39) rfl rfl rfl ?_
          refine h_getR (pc' := 42) rfl rfl rfl rfl rfl ?_
          refine h_iconst (pc' := 43) (x := (Int32.ofInt 2)) rfl rfl rfl ?_
          refine h_aload_n (pc' := 44) rfl rfl rfl ?_
          refine h_getI (pc' := 47) (v := s0 98 29) rfl rfl rfl rfl rfl es43.2.2.2.2.2.1 (fun z44 hz44 => ?_)
          refine h_imul (pc' := 48) rfl rfl ci_2 hz44 rfl (by omega) (by omega) (fun z45 hz45 => ?_)
          clear hz44
          refine h_iconst (pc' := 49) (x := (Int32.ofInt 1)) rfl rfl rfl ?_
          refine h_iadd (pc' := 50) rfl rfl hz45 ci_1 rfl (by omega) (by omega) (fun z46 hz46 => ?_)
          clear hz45
          refine h_iload_n (pc' := 51) rfl rfl rfl ?_
          refine h_zeq (tg := 58) (pc' := 54) rfl rfl rfl ci_0 (fun c47 => ?_) (fun c47 => absurd (Int.le_antisymm (by omega) (by omega)) c47)
          refine h_iconst (pc' := 59) (x := (Int32.ofInt 0)) rfl rfl rfl ?_
          refine h_iast (pc' := 60) rfl rfl rfl rfl hz46 (by omega) (by omega) ci_0 (h_fgt (E := fun s => s 64 1 = s0 64 1 ∧ s 98 11 = s0 98 11 ∧ s 64 4 = s0 64 4 ∧ s 98 16 = s0 98 16 ∧ s 90 2 = ((s0 90 2) + 1) ∧ s 98 29 = s0 98 29 ∧ s = h_up s43 108 ((2 * (s0 98 29)) + 1) 0) _ (in_108 Is43 (h_rgv ci_0)) (Fs43.up rfl) ⟨es43.1, es43.2.1, es43.2.2.1, es43.2.2.2.1, es43.2.2.2.2.1, es43.2.2.2.2.2.1, rfl⟩ (fun s48 Is48 Fs48 (es48 : s48 64 1 = s0 64 1 ∧ s48 98 11 = s0 98 11 ∧ s48 64 4 = s0 64 4 ∧ s48 98 16 = s0 98 16 ∧ s48 90 2 = ((s0 90 2) + 1) ∧ s48 98 29 = s0 98 29 ∧ s48 = h_up s43 108 ((2 * (s0 98 29)) + 1) 0) => ?_))
          clear es43
          have us48 := es48.2.2.2.2.2.2
          have Zs48 : ∀ i, s48 0 i = s0 0 i := fun i => (h_upo us48 rfl i).trans (Zs43 i)
          clear hz46
          refine h_aload_n (pc' := 61) rfl rfl rfl ?_
          refine h_dup (pc' := 62) rfl rfl rfl ?_
          refine h_getI (pc' := 65) (v := s0 98 29) rfl rfl rfl rfl rfl es48.2.2.2.2.2.1 (fun z49 hz49 => ?_)
          refine h_iconst (pc' := 66) (x := (Int32.ofInt 1)) rfl rfl rfl ?_
          refine h_iadd (pc' := 67) rfl rfl hz49 ci_1 rfl (by omega) (by omega) (fun z50 hz50 => ?_)
          clear hz49
          refine h_put (pc' := 70) rfl rfl rfl rfl rfl rfl hz50 rfl (h_fgt (E := fun s => s 64 1 = s0 64 1 ∧ s 98 11 = s0 98 11 ∧ s 64 4 = s0 64 4 ∧ s 98 16 = s0 98 16 ∧ s 90 2 = ((s0 90 2) + 1) ∧ s 98 29 = ((s0 98 29) + 1) ∧ s = h_up s48 98 29 ((s0 98 29) + 1)) _ (if_98_29 Is48 (by omega)) (Fs48.up rfl) ⟨es48.1, es48.2.1, es48.2.2.1, es48.2.2.2.1, es48.2.2.2.2.1, rfl, rfl⟩ (fun s51 Is51 Fs51 (es51 : s51 64 1 = s0 64 1 ∧ s51 98 11 = s0 98 11 ∧ s51 64 4 = s0 64 4 ∧ s51 98 16 = s0 98 16 ∧ s51 90 2 = ((s0 90 2) + 1) ∧ s51 98 29 = ((s0 98 29) + 1) ∧ s51 = h_up s48 98 29 ((s0 98 29) + 1)) => ?_))
          clear es48
          have us51 := es51.2.2.2.2.2.2
          have Zs51 : ∀ i, s51 0 i = s0 0 i := fun i => (h_upo us51 rfl i).trans (Zs48 i)
          refine h_aload_n (pc' := 71) rfl rfl rfl ?_
          refine h_getI (pc' := 74) (v := ((s0 98 29) + 1)) rfl rfl rfl rfl rfl es51.2.2.2.2.2.1 (fun z52 hz52 => ?_)
          refine h_iret rfl rfl (h_Kv ?_)
          clear hz29
          refine h_pop (pc' := 1072) rfl rfl rfl ?_
          clear hz52
          refine h_goto (pc' := 1441) rfl rfl ?_
          exact kk _ Is51 (by first | exact d_tape.le j0 (Int.le_antisymm (by omega) (by omega)) (by omega) (fun j => (h_upo us51 rfl j).trans ((h_upo us48 rfl j).trans ((h_upo us43 rfl j).trans ((h_upo us25 rfl j).trans ((h_upo us22 rfl j).trans ((h_upo us20 rfl j))))))) (fun j => (h_upo us51 rfl j).trans ((h_upo us48 rfl j).trans ((h_upo us43 rfl j).trans ((h_upo us25 rfl j).trans ((h_upo us22 rfl j).trans ((h_upo us20 rfl j))))))) | (exfalso; omega)) (Int.le_antisymm (by omega) (by omega)) (c_R.up98 (c_R.up (c_R.up (c_R.up (c_R.up (c_R.up j2 I0 us20 rfl) Is20 us22 rfl) Is22 us25 rfl) Is25 us43 rfl) Is43 us48 rfl) Is48 us51 (by decide) (by decide)) (g_ti.e j3 ((h_upg us51 rfl).trans ((h_upg us48 rfl).trans ((h_upg us43 rfl).trans ((h_upg us25 rfl).trans ((h_upg us22 rfl).trans (h_upg us20 rfl))))))) (g_SH.e j4 ((h_upg us51 rfl).trans ((h_upg us48 rfl).trans ((h_upg us43 rfl).trans ((h_upg us25 rfl).trans ((h_upg us22 rfl).trans (h_upg us20 rfl)))))) ((h_upg us51 rfl).trans ((h_upg us48 rfl).trans ((h_upg us43 rfl).trans ((h_upg us25 rfl).trans ((h_upg us22 rfl).trans (h_upg us20 rfl)))))) ((h_upg us51 rfl).trans ((h_upg us48 rfl).trans ((h_upg us43 rfl).trans ((h_upg us25 rfl).trans ((h_upg us22 rfl).trans (h_upg us20 rfl)))))) ((h_upg us51 rfl).trans ((h_upg us48 rfl).trans ((h_upg us43 rfl).trans ((h_upg us25 rfl).trans ((h_upg us22 rfl).trans (h_upg us20 rfl)))))) ((h_upg us51 rfl).trans ((h_upg us48 rfl).trans ((h_upg us43 rfl).trans ((h_upg us25 rfl).trans ((h_upg us22 rfl).trans (h_upg us20 rfl)))))) ((h_upg us51 rfl).trans ((h_upg us48 rfl).trans ((h_upg us43 rfl).trans ((h_upg us25 rfl).trans ((h_upg us22 rfl).trans (h_upg us20 rfl))))))) (Int.le_antisymm (by omega) (by omega))
        · clear hz17
          refine h_iconst (pc' := 10) (x := (Int32.ofInt 0)) rfl rfl rfl ?_
          refine h_zret rfl rfl ci_0 (by omega) (h_Kv ?_)
          refine h_zeq (tg := 34) (pc' := 24) rfl rfl rfl ci_0 (fun c53 => ?_) (fun c53 => absurd (Int.le_antisymm (by omega) (by omega)) c53)
          refine h_bipush (pc' := 36) (x := (Int32.ofInt (-3))) rfl rfl cb_m3 ?_
          refine h_iret rfl rfl (h_Kv ?_)
          clear hz2
          refine h_pop (pc' := 1049) rfl rfl rfl ?_
          refine h_aload_n (pc' := 1050) rfl rfl rfl ?_
          refine h_aload_n (pc' := 1051) rfl rfl rfl ?_
          refine h_iload_n (pc' := 1052) rfl rfl rfl ?_
          refine h_iconst (pc' := 1053) (x := (Int32.ofInt 1)) rfl rfl rfl ?_
          refine h_iadd (pc' := 1054) rfl rfl hy3 ci_1 rfl (by omega) (by omega) (fun z54 hz54 => ?_)
          refine h_iald (pc' := 1055) (v := s0 0 (b3 + 1)) rfl rfl rfl hz54 (by omega) (by omega) rfl (fun z55 hz55 => ?_)
          have tz55 := h_rgv hz55
          clear hz54
          refine h_aload_n (pc' := 1056) rfl rfl rfl ?_
          refine h_iload_n (pc' := 1057) rfl rfl rfl ?_
          refine h_iconst (pc' := 1058) (x := (Int32.ofInt 2)) rfl rfl rfl ?_
          refine h_iadd (pc' := 1059) rfl rfl hy3 ci_2 rfl (by omega) (by omega) (fun z56 hz56 => ?_)
          refine h_iald (pc' := 1060) (v := s0 0 (b3 + 2)) rfl rfl rfl hz56 (by omega) (by omega) rfl (fun z57 hz57 => ?_)
          have tz57 := h_rgv hz57
          clear hz56
          refine h_zeq (tg := 1067) (pc' := 1063) rfl rfl rfl hz57 (fun c58 => ?_) (fun c58 => absurd (Int.le_antisymm (by omega) (by omega)) c58)
          clear hz57
          refine h_iconst (pc' := 1068) (x := (Int32.ofInt 0)) rfl rfl rfl ?_
          refine h_call (sp := false) (pc' := 1071) (M := [(0, .ref 98), (1, .int z55), (2, .int (Int32.ofInt 0))]) rfl rfl rfl rfl rfl rfl rfl rfl ?_
          refine h_iload_n (pc' := 1) rfl rfl rfl ?_
          refine h_i2l (pc' := 2) rfl rfl hz55 (fun z59 hz59 => ?_)
          refine h_lconst (pc' := 3) (x := (Int64.ofInt 0)) rfl rfl rfl ?_
          refine h_ldc2 (pc' := 6) (x := (Int64.ofInt 7)) rfl rfl rfl ?_
          refine h_calls (pc' := 9) (M := [(0, .long z59), (2, .long (Int64.ofInt 0)), (4, .long (Int64.ofInt 7))]) rfl rfl rfl rfl rfl rfl ?_
          refine h_lload_n (pc' := 1) rfl rfl rfl ?_
          refine h_lload_n (pc' := 2) rfl rfl rfl ?_
          refine h_lcmp (pc' := 3) rfl rfl hz59 cl_0 (fun z60 hz60 => ?_)
          refine h_zlt (tg := 17) (pc' := 6) rfl rfl rfl rfl (fun c61 => absurd c61 (by omega)) (fun c61 => ?_)
          replace c61 := (h_lcr hz60).2.1 c61
          clear hz60
          refine h_lload_n (pc' := 7) rfl rfl rfl ?_
          refine h_lload (pc' := 9) rfl rfl rfl ?_
          refine h_lcmp (pc' := 10) rfl rfl hz59 cl_7 (fun z62 hz62 => ?_)
          refine h_zgt (tg := 17) (pc' := 13) rfl rfl rfl rfl (fun c63 => absurd c63 (by omega)) (fun c63 => ?_)
          replace c63 := (h_lcr hz62).2.2.1 c63
          clear hz62
          refine h_iconst (pc' := 14) (x := (Int32.ofInt 1)) rfl rfl rfl ?_
          refine h_goto (pc' := 18) rfl rfl ?_
          refine h_zret rfl rfl ci_1 (by omega) (h_Kv ?_)
          clear hz59
          refine h_zne (tg := 14) (pc' := 12) rfl rfl rfl ci_1 (fun c64 => ?_) (fun c64 => absurd c64 (by omega))
          refine h_aload_n (pc' := 15) rfl rfl rfl ?_
          refine h_getI (pc' := 18) (v := s0 98 29) rfl rfl rfl rfl rfl rfl (fun z65 hz65 => ?_)
          have tz65 := tf_98_29 I0
          refine h_bipush (pc' := 20) (x := (Int32.ofInt 6)) rfl rfl cb_6 ?_
          refine h_cne (tg := 26) (pc' := 23) rfl rfl rfl hz65 ci_6 (fun c66 => absurd (Int.le_antisymm (by omega) (by omega)) c66) (fun c66 => ?_)
          clear hz65
          refine h_bipush (pc' := 25) (x := (Int32.ofInt (-3))) rfl rfl cb_m3 ?_
          refine h_iret rfl rfl (h_Kv ?_)
          clear hz55
          refine h_pop (pc' := 1072) rfl rfl rfl ?_
          refine h_goto (pc' := 1441) rfl rfl ?_
          exact kk _ I0 (by first | exact d_tape.le j0 (Int.le_antisymm (by omega) (by omega)) (by omega) (fun j => rfl) (fun j => rfl) | (exfalso; omega)) (Int.le_antisymm (by omega) (by omega)) j2 (g_ti.e j3 rfl) (g_SH.e j4 rfl rfl rfl rfl rfl rfl) (Int.le_antisymm (by omega) (by omega))
      · refine h_iconst (pc' := 11) (x := (Int32.ofInt (-1))) rfl rfl rfl ?_
        refine h_iret rfl rfl (h_Kv ?_)
        clear hz2
        refine h_pop (pc' := 1049) rfl rfl rfl ?_
        refine h_aload_n (pc' := 1050) rfl rfl rfl ?_
        refine h_aload_n (pc' := 1051) rfl rfl rfl ?_
        refine h_iload_n (pc' := 1052) rfl rfl rfl ?_
        refine h_iconst (pc' := 1053) (x := (Int32.ofInt 1)) rfl rfl rfl ?_
        refine h_iadd (pc' := 1054) rfl rfl hy3 ci_1 rfl (by omega) (by omega) (fun z67 hz67 => ?_)
        refine h_iald (pc' := 1055) (v := s0 0 (b3 + 1)) rfl rfl rfl hz67 (by omega) (by omega) rfl (fun z68 hz68 => ?_)
        have tz68 := h_rgv hz68
        clear hz67
        refine h_aload_n (pc' := 1056) rfl rfl rfl ?_
        refine h_iload_n (pc' := 1057) rfl rfl rfl ?_
        refine h_iconst (pc' := 1058) (x := (Int32.ofInt 2)) rfl rfl rfl ?_
        refine h_iadd (pc' := 1059) rfl rfl hy3 ci_2 rfl (by omega) (by omega) (fun z69 hz69 => ?_)
        refine h_iald (pc' := 1060) (v := s0 0 (b3 + 2)) rfl rfl rfl hz69 (by omega) (by omega) rfl (fun z70 hz70 => ?_)
        have tz70 := h_rgv hz70
        clear hz69
        refine h_zeq (tg := 1067) (pc' := 1063) rfl rfl rfl hz70 (fun c71 => ?_) (fun c71 => absurd (Int.le_antisymm (by omega) (by omega)) c71)
        clear hz70
        refine h_iconst (pc' := 1068) (x := (Int32.ofInt 0)) rfl rfl rfl ?_
        refine h_call (sp := false) (pc' := 1071) (M := [(0, .ref 98), (1, .int z68), (2, .int (Int32.ofInt 0))]) rfl rfl rfl rfl rfl rfl rfl rfl ?_
        refine h_iload_n (pc' := 1) rfl rfl rfl ?_
        refine h_i2l (pc' := 2) rfl rfl hz68 (fun z72 hz72 => ?_)
        refine h_lconst (pc' := 3) (x := (Int64.ofInt 0)) rfl rfl rfl ?_
        refine h_ldc2 (pc' := 6) (x := (Int64.ofInt 7)) rfl rfl rfl ?_
        refine h_calls (pc' := 9) (M := [(0, .long z72), (2, .long (Int64.ofInt 0)), (4, .long (Int64.ofInt 7))]) rfl rfl rfl rfl rfl rfl ?_
        refine h_lload_n (pc' := 1) rfl rfl rfl ?_
        refine h_lload_n (pc' := 2) rfl rfl rfl ?_
        refine h_lcmp (pc' := 3) rfl rfl hz72 cl_0 (fun z73 hz73 => ?_)
        refine h_zlt (tg := 17) (pc' := 6) rfl rfl rfl rfl (fun c74 => absurd c74 (by omega)) (fun c74 => ?_)
        replace c74 := (h_lcr hz73).2.1 c74
        clear hz73
        refine h_lload_n (pc' := 7) rfl rfl rfl ?_
        refine h_lload (pc' := 9) rfl rfl rfl ?_
        refine h_lcmp (pc' := 10) rfl rfl hz72 cl_7 (fun z75 hz75 => ?_)
        refine h_zgt (tg := 17) (pc' := 13) rfl rfl rfl rfl (fun c76 => ?_) (fun c76 => absurd c76 (by omega))
        replace c76 := (h_lcr hz75).2.2.2.1 c76
        clear hz75
        refine h_iconst (pc' := 18) (x := (Int32.ofInt 0)) rfl rfl rfl ?_
        refine h_zret rfl rfl ci_0 (by omega) (h_Kv ?_)
        clear hz72
        refine h_zne (tg := 14) (pc' := 12) rfl rfl rfl ci_0 (fun c77 => absurd (Int.le_antisymm (by omega) (by omega)) c77) (fun c77 => ?_)
        refine h_iconst (pc' := 13) (x := (Int32.ofInt (-1))) rfl rfl rfl ?_
        refine h_iret rfl rfl (h_Kv ?_)
        clear hz68
        refine h_pop (pc' := 1072) rfl rfl rfl ?_
        refine h_goto (pc' := 1441) rfl rfl ?_
        exact kk _ I0 (by first | exact d_tape.le j0 (Int.le_antisymm (by omega) (by omega)) (by omega) (fun j => rfl) (fun j => rfl) | (exfalso; omega)) (Int.le_antisymm (by omega) (by omega)) j2 (g_ti.e j3 rfl) (g_SH.e j4 rfl rfl rfl rfl rfl rfl) (Int.le_antisymm (by omega) (by omega))
  · clear hz4
    refine h_iconst (pc' := 1041) (x := (Int32.ofInt 1)) rfl rfl rfl ?_
    refine h_goto (pc' := 1045) rfl rfl ?_
    refine h_call (sp := false) (pc' := 1048) (M := [(0, .ref 9), (1, .int z2), (2, .int (Int32.ofInt 1))]) rfl rfl rfl rfl rfl rfl rfl rfl ?_
    refine h_iload_n (pc' := 1) rfl rfl rfl ?_
    refine h_zlt (tg := 10) (pc' := 4) rfl rfl rfl hz2 (fun c78 => ?_) (fun c78 => ?_)
    · refine h_iconst (pc' := 11) (x := (Int32.ofInt (-1))) rfl rfl rfl ?_
      refine h_iret rfl rfl (h_Kv ?_)
      clear hz2
      refine h_pop (pc' := 1049) rfl rfl rfl ?_
      refine h_aload_n (pc' := 1050) rfl rfl rfl ?_
      refine h_aload_n (pc' := 1051) rfl rfl rfl ?_
      refine h_iload_n (pc' := 1052) rfl rfl rfl ?_
      refine h_iconst (pc' := 1053) (x := (Int32.ofInt 1)) rfl rfl rfl ?_
      refine h_iadd (pc' := 1054) rfl rfl hy3 ci_1 rfl (by omega) (by omega) (fun z79 hz79 => ?_)
      refine h_iald (pc' := 1055) (v := s0 0 (b3 + 1)) rfl rfl rfl hz79 (by omega) (by omega) rfl (fun z80 hz80 => ?_)
      have tz80 := h_rgv hz80
      clear hz79
      refine h_aload_n (pc' := 1056) rfl rfl rfl ?_
      refine h_iload_n (pc' := 1057) rfl rfl rfl ?_
      refine h_iconst (pc' := 1058) (x := (Int32.ofInt 2)) rfl rfl rfl ?_
      refine h_iadd (pc' := 1059) rfl rfl hy3 ci_2 rfl (by omega) (by omega) (fun z81 hz81 => ?_)
      refine h_iald (pc' := 1060) (v := s0 0 (b3 + 2)) rfl rfl rfl hz81 (by omega) (by omega) rfl (fun z82 hz82 => ?_)
      have tz82 := h_rgv hz82
      clear hz81
      refine h_zeq (tg := 1067) (pc' := 1063) rfl rfl rfl hz82 (fun c83 => absurd c83 (by omega)) (fun c83 => ?_)
      clear hz82
      refine h_iconst (pc' := 1064) (x := (Int32.ofInt 1)) rfl rfl rfl ?_
      refine h_goto (pc' := 1068) rfl rfl ?_
      refine h_call (sp := false) (pc' := 1071) (M := [(0, .ref 98), (1, .int z80), (2, .int (Int32.ofInt 1))]) rfl rfl rfl rfl rfl rfl rfl rfl ?_
      refine h_iload_n (pc' := 1) rfl rfl rfl ?_
      refine h_i2l (pc' := 2) rfl rfl hz80 (fun z84 hz84 => ?_)
      refine h_lconst (pc' := 3) (x := (Int64.ofInt 0)) rfl rfl rfl ?_
      refine h_ldc2 (pc' := 6) (x := (Int64.ofInt 7)) rfl rfl rfl ?_
      refine h_calls (pc' := 9) (M := [(0, .long z84), (2, .long (Int64.ofInt 0)), (4, .long (Int64.ofInt 7))]) rfl rfl rfl rfl rfl rfl ?_
      refine h_lload_n (pc' := 1) rfl rfl rfl ?_
      refine h_lload_n (pc' := 2) rfl rfl rfl ?_
      refine h_lcmp (pc' := 3) rfl rfl hz84 cl_0 (fun z85 hz85 => ?_)
      refine h_zlt (tg := 17) (pc' := 6) rfl rfl rfl rfl (fun c86 => ?_) (fun c86 => absurd c86 (by omega))
      replace c86 := (h_lcr hz85).1 c86
      clear hz85
      refine h_iconst (pc' := 18) (x := (Int32.ofInt 0)) rfl rfl rfl ?_
      refine h_zret rfl rfl ci_0 (by omega) (h_Kv ?_)
      clear hz84
      refine h_zne (tg := 14) (pc' := 12) rfl rfl rfl ci_0 (fun c87 => absurd (Int.le_antisymm (by omega) (by omega)) c87) (fun c87 => ?_)
      refine h_iconst (pc' := 13) (x := (Int32.ofInt (-1))) rfl rfl rfl ?_
      refine h_iret rfl rfl (h_Kv ?_)
      clear hz80
      refine h_pop (pc' := 1072) rfl rfl rfl ?_
      refine h_goto (pc' := 1441) rfl rfl ?_
      exact kk _ I0 (by first | exact d_tape.le j0 (Int.le_antisymm (by omega) (by omega)) (by omega) (fun j => rfl) (fun j => rfl) | (exfalso; omega)) (Int.le_antisymm (by omega) (by omega)) j2 (g_ti.e j3 rfl) (g_SH.e j4 rfl rfl rfl rfl rfl rfl) (Int.le_antisymm (by omega) (by omega))
    · refine h_iload_n (pc' := 5) rfl rfl rfl ?_
      refine h_bipush (pc' := 7) (x := (Int32.ofInt 8)) rfl rfl cb_8 ?_
      refine h_clt (tg := 12) (pc' := 10) rfl rfl rfl hz2 ci_8 (fun c88 => ?_) (fun c88 => ?_)
      · refine h_aload_n (pc' := 13) rfl rfl rfl ?_
        refine h_getR (pc' := 16) rfl rfl rfl rfl rfl ?_
        refine h_iload_n (pc' := 17) rfl rfl rfl ?_
        refine h_iload_n (pc' := 18) rfl rfl rfl ?_
        refine h_call (sp := false) (pc' := 21) (M := [(0, .ref 90), (1, .int z2), (2, .int (Int32.ofInt 1))]) rfl rfl rfl rfl rfl rfl rfl rfl ?_
        refine h_aload_n (pc' := 1) rfl rfl rfl ?_
        refine h_getI (pc' := 4) (v := s0 90 2) rfl rfl rfl rfl rfl rfl (fun z89 hz89 => ?_)
        have tz89 := tf_90_2 I0
        refine h_bipush (pc' := 6) (x := (Int32.ofInt 6)) rfl rfl cb_6 ?_
        refine h_clt (tg := 11) (pc' := 9) rfl rfl rfl hz89 ci_6 (fun c90 => ?_) (fun c90 => ?_)
        · clear hz89
          refine h_aload_n (pc' := 12) rfl rfl rfl ?_
          refine h_getR (pc' := 15) rfl rfl rfl rfl rfl ?_
          refine h_aload_n (pc' := 16) rfl rfl rfl ?_
          refine h_getI (pc' := 19) (v := s0 90 2) rfl rfl rfl rfl rfl rfl (fun z91 hz91 => ?_)
          refine h_iload_n (pc' := 20) rfl rfl rfl ?_
          refine h_iast (pc' := 21) rfl rfl rfl rfl hz91 (by omega) (by omega) hz2 (h_fgt (E := fun s => s 64 1 = s0 64 1 ∧ s 98 11 = s0 98 11 ∧ s 64 4 = s0 64 4 ∧ s 98 16 = s0 98 16 ∧ s 90 2 = s0 90 2 ∧ s 98 29 = s0 98 29 ∧ s = h_up s0 91 (s0 90 2) (s0 0 (b3 + 1))) _ (in_91 I0 (by omega)) (F0_.up rfl) ⟨rfl, rfl, rfl, rfl, rfl, rfl, rfl⟩ (fun s92 Is92 Fs92 (es92 : s92 64 1 = s0 64 1 ∧ s92 98 11 = s0 98 11 ∧ s92 64 4 = s0 64 4 ∧ s92 98 16 = s0 98 16 ∧ s92 90 2 = s0 90 2 ∧ s92 98 29 = s0 98 29 ∧ s92 = h_up s0 91 (s0 90 2) (s0 0 (b3 + 1))) => ?_))
          have us92 := es92.2.2.2.2.2.2
          have Zs92 : ∀ i, s92 0 i = s0 0 i := fun i => (h_upo us92 rfl i).trans rfl
          clear hz91
          refine h_aload_n (pc' := 22) rfl rfl rfl ?_
          refine h_getR (pc' := 25) rfl rfl rfl rfl rfl ?_
          refine h_aload_n (pc' := 26) rfl rfl rfl ?_
          refine h_getI (pc' := 29) (v := s0 90 2) rfl rfl rfl rfl rfl es92.2.2.2.2.1 (fun z93 hz93 => ?_)
          refine h_iload_n (pc' := 30) rfl rfl rfl ?_
          refine h_bast (pc' := 31) rfl rfl rfl rfl hz93 (by omega) (by omega) ci_1 (by omega) (h_fgt (E := fun s => s 64 1 = s0 64 1 ∧ s 98 11 = s0 98 11 ∧ s 64 4 = s0 64 4 ∧ s 98 16 = s0 98 16 ∧ s 90 2 = s0 90 2 ∧ s 98 29 = s0 98 29 ∧ s = h_up s92 92 (s0 90 2) 1) _ (in_92 Is92 (by omega)) (Fs92.up rfl) ⟨es92.1, es92.2.1, es92.2.2.1, es92.2.2.2.1, es92.2.2.2.2.1, es92.2.2.2.2.2.1, rfl⟩ (fun s94 Is94 Fs94 (es94 : s94 64 1 = s0 64 1 ∧ s94 98 11 = s0 98 11 ∧ s94 64 4 = s0 64 4 ∧ s94 98 16 = s0 98 16 ∧ s94 90 2 = s0 90 2 ∧ s94 98 29 = s0 98 29 ∧ s94 = h_up s92 92 (s0 90 2) 1) => ?_))
          clear es92
          have us94 := es94.2.2.2.2.2.2
          have Zs94 : ∀ i, s94 0 i = s0 0 i := fun i => (h_upo us94 rfl i).trans (Zs92 i)
          clear hz93
          refine h_aload_n (pc' := 32) rfl rfl rfl ?_
          refine h_dup (pc' := 33) rfl rfl rfl ?_
          refine h_getI (pc' := 36) (v := s0 90 2) rfl rfl rfl rfl rfl es94.2.2.2.2.1 (fun z95 hz95 => ?_)
          refine h_iconst (pc' := 37) (x := (Int32.ofInt 1)) rfl rfl rfl ?_
          refine h_iadd (pc' := 38) rfl rfl hz95 ci_1 rfl (by omega) (by omega) (fun z96 hz96 => ?_)
          clear hz95
          refine h_put (pc' := 41) rfl rfl rfl rfl rfl rfl hz96 rfl (h_fgt (E := fun s => s 64 1 = s0 64 1 ∧ s 98 11 = s0 98 11 ∧ s 64 4 = s0 64 4 ∧ s 98 16 = s0 98 16 ∧ s 90 2 = ((s0 90 2) + 1) ∧ s 98 29 = s0 98 29 ∧ s = h_up s94 90 2 ((s0 90 2) + 1)) _ (if_90_2 Is94 (by omega)) (Fs94.up rfl) ⟨es94.1, es94.2.1, es94.2.2.1, es94.2.2.2.1, rfl, es94.2.2.2.2.2.1, rfl⟩ (fun s97 Is97 Fs97 (es97 : s97 64 1 = s0 64 1 ∧ s97 98 11 = s0 98 11 ∧ s97 64 4 = s0 64 4 ∧ s97 98 16 = s0 98 16 ∧ s97 90 2 = ((s0 90 2) + 1) ∧ s97 98 29 = s0 98 29 ∧ s97 = h_up s94 90 2 ((s0 90 2) + 1)) => ?_))
          clear es94
          have us97 := es97.2.2.2.2.2.2
          have Zs97 : ∀ i, s97 0 i = s0 0 i := fun i => (h_upo us97 rfl i).trans (Zs94 i)
          refine h_iconst (pc' := 42) (x := (Int32.ofInt 1)) rfl rfl rfl ?_
          refine h_zret rfl rfl ci_1 (by omega) (h_Kv ?_)
          refine h_zeq (tg := 34) (pc' := 24) rfl rfl rfl ci_1 (fun c98 => absurd c98 (by omega)) (fun c98 => ?_)
          refine h_aload_n (pc' := 25) rfl rfl rfl ?_
          refine h_getR (pc' := 28) rfl rfl rfl rfl rfl ?_
          refine h_getI (pc' := 31) (v := ((s0 90 2) + 1)) rfl rfl rfl rfl rfl es97.2.2.2.2.1 (fun z99 hz99 => ?_)
          refine h_goto (pc' := 36) rfl rfl ?_
          refine h_iret rfl rfl (h_Kv ?_)
          clear hz2
          refine h_pop (pc' := 1049) rfl rfl rfl ?_
          clear hz99
          refine h_aload_n (pc' := 1050) rfl rfl rfl ?_
          refine h_aload_n (pc' := 1051) rfl rfl rfl ?_
          refine h_iload_n (pc' := 1052) rfl rfl rfl ?_
          refine h_iconst (pc' := 1053) (x := (Int32.ofInt 1)) rfl rfl rfl ?_
          refine h_iadd (pc' := 1054) rfl rfl hy3 ci_1 rfl (by omega) (by omega) (fun z100 hz100 => ?_)
          refine h_iald (pc' := 1055) (v := s0 0 (b3 + 1)) rfl rfl rfl hz100 (by omega) (by omega) (Zs97 _) (fun z101 hz101 => ?_)
          have tz101 := h_rgv hz101
          clear hz100
          refine h_aload_n (pc' := 1056) rfl rfl rfl ?_
          refine h_iload_n (pc' := 1057) rfl rfl rfl ?_
          refine h_iconst (pc' := 1058) (x := (Int32.ofInt 2)) rfl rfl rfl ?_
          refine h_iadd (pc' := 1059) rfl rfl hy3 ci_2 rfl (by omega) (by omega) (fun z102 hz102 => ?_)
          refine h_iald (pc' := 1060) (v := s0 0 (b3 + 2)) rfl rfl rfl hz102 (by omega) (by omega) (Zs97 _) (fun z103 hz103 => ?_)
          have tz103 := h_rgv hz103
          clear hz102
          refine h_zeq (tg := 1067) (pc' := 1063) rfl rfl rfl hz103 (fun c104 => absurd c104 (by omega)) (fun c104 => ?_)
          clear hz103
          refine h_iconst (pc' := 1064) (x := (Int32.ofInt 1)) rfl rfl rfl ?_
          refine h_goto (pc' := 1068) rfl rfl ?_
          refine h_call (sp := false) (pc' := 1071) (M := [(0, .ref 98), (1, .int z101), (2, .int (Int32.ofInt 1))]) rfl rfl rfl rfl rfl rfl rfl rfl ?_
          refine h_iload_n (pc' := 1) rfl rfl rfl ?_
          refine h_i2l (pc' := 2) rfl rfl hz101 (fun z105 hz105 => ?_)
          refine h_lconst (pc' := 3) (x := (Int64.ofInt 0)) rfl rfl rfl ?_
          refine h_ldc2 (pc' := 6) (x := (Int64.ofInt 7)) rfl rfl rfl ?_
          refine h_calls (pc' := 9) (M := [(0, .long z105), (2, .long (Int64.ofInt 0)), (4, .long (Int64.ofInt 7))]) rfl rfl rfl rfl rfl rfl ?_
          refine h_lload_n (pc' := 1) rfl rfl rfl ?_
          refine h_lload_n (pc' := 2) rfl rfl rfl ?_
          refine h_lcmp (pc' := 3) rfl rfl hz105 cl_0 (fun z106 hz106 => ?_)
          refine h_zlt (tg := 17) (pc' := 6) rfl rfl rfl rfl (fun c107 => absurd c107 (by omega)) (fun c107 => ?_)
          replace c107 := (h_lcr hz106).2.1 c107
          clear hz106
          refine h_lload_n (pc' := 7) rfl rfl rfl ?_
          refine h_lload (pc' := 9) rfl rfl rfl ?_
          refine h_lcmp (pc' := 10) rfl rfl hz105 cl_7 (fun z108 hz108 => ?_)
          refine h_zgt (tg := 17) (pc' := 13) rfl rfl rfl rfl (fun c109 => absurd c109 (by omega)) (fun c109 => ?_)
          replace c109 := (h_lcr hz108).2.2.1 c109
          clear hz108
          refine h_iconst (pc' := 14) (x := (Int32.ofInt 1)) rfl rfl rfl ?_
          refine h_goto (pc' := 18) rfl rfl ?_
          refine h_zret rfl rfl ci_1 (by omega) (h_Kv ?_)
          clear hz105
          refine h_zne (tg := 14) (pc' := 12) rfl rfl rfl ci_1 (fun c110 => ?_) (fun c110 => absurd c110 (by omega))
          refine h_aload_n (pc' := 15) rfl rfl rfl ?_
          refine h_getI (pc' := 18) (v := s0 98 29) rfl rfl rfl rfl rfl es97.2.2.2.2.2.1 (fun z111 hz111 => ?_)
          have tz111 := tf_98_29 I0
          refine h_bipush (pc' := 20) (x := (Int32.ofInt 6)) rfl rfl cb_6 ?_
          refine h_cne (tg := 26) (pc' := 23) rfl rfl rfl hz111 ci_6 (fun c112 => ?_) (fun c112 => absurd c112 (by omega))
          clear hz111
          refine h_aload_n (pc' := 27) rfl rfl rfl ?_
          refine h_getR (pc' := 30) rfl rfl rfl rfl rfl ?_
          refine h_iconst (pc' := 31) (x := (Int32.ofInt 2)) rfl rfl rfl ?_
          refine h_aload_n (pc' := 32) rfl rfl rfl ?_
          refine h_getI (pc' := 35) (v := s0 98 29) rfl rfl rfl rfl rfl es97.2.2.2.2.2.1 (fun z113 hz113 => ?_)
          refine h_imul (pc' := 36) rfl rfl ci_2 hz113 rfl (by omega) (by omega) (fun z114 hz114 => ?_)
          clear hz113
          refine h_iload_n (pc' := 37) rfl rfl rfl ?_
          refine h_iast (pc' := 38) rfl rfl rfl rfl hz114 (by omega) (by omega) hz101 (h_fgt (E := fun s => s 64 1 = s0 64 1 ∧ s 98 11 = s0 98 11 ∧ s 64 4 = s0 64 4 ∧ s 98 16 = s0 98 16 ∧ s 90 2 = ((s0 90 2) + 1) ∧ s 98 29 = s0 98 29 ∧ s = h_up s97 108 (2 * (s0 98 29)) (s0 0 (b3 + 1))) _ (in_108 Is97 (h_rgv hz101)) (Fs97.up rfl) ⟨es97.1, es97.2.1, es97.2.2.1, es97.2.2.2.1, es97.2.2.2.2.1, es97.2.2.2.2.2.1, rfl⟩ (fun s115 Is115 Fs115 (es115 : s115 64 1 = s0 64 1 ∧ s115 98 11 = s0 98 11 ∧ s115 64 4 = s0 64 4 ∧ s115 98 16 = s0 98 16 ∧ s115 90 2 = ((s0 90 2) + 1) ∧ s115 98 29 = s0 98 29 ∧ s115 = h_up s97 108 (2 * (s0 98 29)) (s0 0 (b3 + 1))) => ?_))
          clear es97
          have us115 := es115.2.2.2.2.2.2
          have Zs115 : ∀ i, s115 0 i = s0 0 i := fun i => (h_upo us115 rfl i).trans (Zs97 i)
          clear hz114
          refine h_aload_n (pc' := 39) rfl rfl rfl ?_
          refine h_getR (pc' := 42) rfl rfl rfl rfl rfl ?_
          refine h_iconst (pc' := 43) (x := (Int32.ofInt 2)) rfl rfl rfl ?_
          refine h_aload_n (pc' := 44) rfl rfl rfl ?_
          refine h_getI (pc' := 47) (v := s0 98 29) rfl rfl rfl rfl rfl es115.2.2.2.2.2.1 (fun z116 hz116 => ?_)
          refine h_imul (pc' := 48) rfl rfl ci_2 hz116 rfl (by omega) (by omega) (fun z117 hz117 => ?_)
          clear hz116
          refine h_iconst (pc' := 49) (x := (Int32.ofInt 1)) rfl rfl rfl ?_
          refine h_iadd (pc' := 50) rfl rfl hz117 ci_1 rfl (by omega) (by omega) (fun z118 hz118 => ?_)
          clear hz117
          refine h_iload_n (pc' := 51) rfl rfl rfl ?_
          refine h_zeq (tg := 58) (pc' := 54) rfl rfl rfl ci_1 (fun c119 => absurd c119 (by omega)) (fun c119 => ?_)
          refine h_iconst (pc' := 55) (x := (Int32.ofInt 1)) rfl rfl rfl ?_
          refine h_goto (pc' := 59) rfl rfl ?_
          refine h_iast (pc' := 60) rfl rfl rfl rfl hz118 (by omega) (by omega) ci_1 (h_fgt (E := fun s => s 64 1 = s0 64 1 ∧ s 98 11 = s0 98 11 ∧ s 64 4 = s0 64 4 ∧ s 98 16 = s0 98 16 ∧ s 90 2 = ((s0 90 2) + 1) ∧ s 98 29 = s0 98 29 ∧ s = h_up s115 108 ((2 * (s0 98 29)) + 1) 1) _ (in_108 Is115 (h_rgv ci_1)) (Fs115.up rfl) ⟨es115.1, es115.2.1, es115.2.2.1, es115.2.2.2.1, es115.2.2.2.2.1, es115.2.2.2.2.2.1, rfl⟩ (fun s120 Is120 Fs120 (es120 : s120 64 1 = s0 64 1 ∧ s120 98 11 = s0 98 11 ∧ s120 64 4 = s0 64 4 ∧ s120 98 16 = s0 98 16 ∧ s120 90 2 = ((s0 90 2) + 1) ∧ s120 98 29 = s0 98 29 ∧ s120 = h_up s115 108 ((2 * (s0 98 29)) + 1) 1) => ?_))
          clear es115
          have us120 := es120.2.2.2.2.2.2
          have Zs120 : ∀ i, s120 0 i = s0 0 i := fun i => (h_upo us120 rfl i).trans (Zs115 i)
          clear hz118
          refine h_aload_n (pc' := 61) rfl rfl rfl ?_
          refine h_dup (pc' := 62) rfl rfl rfl ?_
          refine h_getI (pc' := 65) (v := s0 98 29) rfl rfl rfl rfl rfl es120.2.2.2.2.2.1 (fun z121 hz121 => ?_)
          refine h_iconst (pc' := 66) (x := (Int32.ofInt 1)) rfl rfl rfl ?_
          refine h_iadd (pc' := 67) rfl rfl hz121 ci_1 rfl (by omega) (by omega) (fun z122 hz122 => ?_)
          clear hz121
          refine h_put (pc' := 70) rfl rfl rfl rfl rfl rfl hz122 rfl (h_fgt (E := fun s => s 64 1 = s0 64 1 ∧ s 98 11 = s0 98 11 ∧ s 64 4 = s0 64 4 ∧ s 98 16 = s0 98 16 ∧ s 90 2 = ((s0 90 2) + 1) ∧ s 98 29 = ((s0 98 29) + 1) ∧ s = h_up s120 98 29 ((s0 98 29) + 1)) _ (if_98_29 Is120 (by omega)) (Fs120.up rfl) ⟨es120.1, es120.2.1, es120.2.2.1, es120.2.2.2.1, es120.2.2.2.2.1, rfl, rfl⟩ (fun s123 Is123 Fs123 (es123 : s123 64 1 = s0 64 1 ∧ s123 98 11 = s0 98 11 ∧ s123 64 4 = s0 64 4 ∧ s123 98 16 = s0 98 16 ∧ s123 90 2 = ((s0 90 2) + 1) ∧ s123 98 29 = ((s0 98 29) + 1) ∧ s123 = h_up s120 98 29 ((s0 98 29) + 1)) => ?_))
          clear es120
          have us123 := es123.2.2.2.2.2.2
          have Zs123 : ∀ i, s123 0 i = s0 0 i := fun i => (h_upo us123 rfl i).trans (Zs120 i)
          refine h_aload_n (pc' := 71) rfl rfl rfl ?_
          refine h_getI (pc' := 74) (v := ((s0 98 29) + 1)) rfl rfl rfl rfl rfl es123.2.2.2.2.2.1 (fun z124 hz124 => ?_)
          refine h_iret rfl rfl (h_Kv ?_)
          clear hz101
          refine h_pop (pc' := 1072) rfl rfl rfl ?_
          clear hz124
          refine h_goto (pc' := 1441) rfl rfl ?_
          exact kk _ Is123 (by first | exact d_tape.le j0 (Int.le_antisymm (by omega) (by omega)) (by omega) (fun j => (h_upo us123 rfl j).trans ((h_upo us120 rfl j).trans ((h_upo us115 rfl j).trans ((h_upo us97 rfl j).trans ((h_upo us94 rfl j).trans ((h_upo us92 rfl j))))))) (fun j => (h_upo us123 rfl j).trans ((h_upo us120 rfl j).trans ((h_upo us115 rfl j).trans ((h_upo us97 rfl j).trans ((h_upo us94 rfl j).trans ((h_upo us92 rfl j))))))) | (exfalso; omega)) (Int.le_antisymm (by omega) (by omega)) (c_R.up98 (c_R.up (c_R.up (c_R.up (c_R.up (c_R.up j2 I0 us92 rfl) Is92 us94 rfl) Is94 us97 rfl) Is97 us115 rfl) Is115 us120 rfl) Is120 us123 (by decide) (by decide)) (g_ti.e j3 ((h_upg us123 rfl).trans ((h_upg us120 rfl).trans ((h_upg us115 rfl).trans ((h_upg us97 rfl).trans ((h_upg us94 rfl).trans (h_upg us92 rfl))))))) (g_SH.e j4 ((h_upg us123 rfl).trans ((h_upg us120 rfl).trans ((h_upg us115 rfl).trans ((h_upg us97 rfl).trans ((h_upg us94 rfl).trans (h_upg us92 rfl)))))) ((h_upg us123 rfl).trans ((h_upg us120 rfl).trans ((h_upg us115 rfl).trans ((h_upg us97 rfl).trans ((h_upg us94 rfl).trans (h_upg us92 rfl)))))) ((h_upg us123 rfl).trans ((h_upg us120 rfl).trans ((h_upg us115 rfl).trans ((h_upg us97 rfl).trans ((h_upg us94 rfl).trans (h_upg us92 rfl)))))) ((h_upg us123 rfl).trans ((h_upg us120 rfl).trans ((h_upg us115 rfl).trans ((h_upg us97 rfl).trans ((h_upg us94 rfl).trans (h_upg us92 rfl)))))) ((h_upg us123 rfl).trans ((h_upg us120 rfl).trans ((h_upg us115 rfl).trans ((h_upg us97 rfl).trans ((h_upg us94 rfl).trans (h_upg us92 rfl)))))) ((h_upg us123 rfl).trans ((h_upg us120 rfl).trans ((h_upg us115 rfl).trans ((h_upg us97 rfl).trans ((h_upg us94 rfl).trans (h_upg us92 rfl))))))) (Int.le_antisymm (by omega) (by omega))
        · clear hz89
          refine h_iconst (pc' := 10) (x := (Int32.ofInt 0)) rfl rfl rfl ?_
          refine h_zret rfl rfl ci_0 (by omega) (h_Kv ?_)
          refine h_zeq (tg := 34) (pc' := 24) rfl rfl rfl ci_0 (fun c125 => ?_) (fun c125 => absurd (Int.le_antisymm (by omega) (by omega)) c125)
          refine h_bipush (pc' := 36) (x := (Int32.ofInt (-3))) rfl rfl cb_m3 ?_
          refine h_iret rfl rfl (h_Kv ?_)
          clear hz2
          refine h_pop (pc' := 1049) rfl rfl rfl ?_
          refine h_aload_n (pc' := 1050) rfl rfl rfl ?_
          refine h_aload_n (pc' := 1051) rfl rfl rfl ?_
          refine h_iload_n (pc' := 1052) rfl rfl rfl ?_
          refine h_iconst (pc' := 1053) (x := (Int32.ofInt 1)) rfl rfl rfl ?_
          refine h_iadd (pc' := 1054) rfl rfl hy3 ci_1 rfl (by omega) (by omega) (fun z126 hz126 => ?_)
          refine h_iald (pc' := 1055) (v := s0 0 (b3 + 1)) rfl rfl rfl hz126 (by omega) (by omega) rfl (fun z127 hz127 => ?_)
          have tz127 := h_rgv hz127
          clear hz126
          refine h_aload_n (pc' := 1056) rfl rfl rfl ?_
          refine h_iload_n (pc' := 1057) rfl rfl rfl ?_
          refine h_iconst (pc' := 1058) (x := (Int32.ofInt 2)) rfl rfl rfl ?_
          refine h_iadd (pc' := 1059) rfl rfl hy3 ci_2 rfl (by omega) (by omega) (fun z128 hz128 => ?_)
          refine h_iald (pc' := 1060) (v := s0 0 (b3 + 2)) rfl rfl rfl hz128 (by omega) (by omega) rfl (fun z129 hz129 => ?_)
          have tz129 := h_rgv hz129
          clear hz128
          refine h_zeq (tg := 1067) (pc' := 1063) rfl rfl rfl hz129 (fun c130 => absurd c130 (by omega)) (fun c130 => ?_)
          clear hz129
          refine h_iconst (pc' := 1064) (x := (Int32.ofInt 1)) rfl rfl rfl ?_
          refine h_goto (pc' := 1068) rfl rfl ?_
          refine h_call (sp := false) (pc' := 1071) (M := [(0, .ref 98), (1, .int z127), (2, .int (Int32.ofInt 1))]) rfl rfl rfl rfl rfl rfl rfl rfl ?_
          refine h_iload_n (pc' := 1) rfl rfl rfl ?_
          refine h_i2l (pc' := 2) rfl rfl hz127 (fun z131 hz131 => ?_)
          refine h_lconst (pc' := 3) (x := (Int64.ofInt 0)) rfl rfl rfl ?_
          refine h_ldc2 (pc' := 6) (x := (Int64.ofInt 7)) rfl rfl rfl ?_
          refine h_calls (pc' := 9) (M := [(0, .long z131), (2, .long (Int64.ofInt 0)), (4, .long (Int64.ofInt 7))]) rfl rfl rfl rfl rfl rfl ?_
          refine h_lload_n (pc' := 1) rfl rfl rfl ?_
          refine h_lload_n (pc' := 2) rfl rfl rfl ?_
          refine h_lcmp (pc' := 3) rfl rfl hz131 cl_0 (fun z132 hz132 => ?_)
          refine h_zlt (tg := 17) (pc' := 6) rfl rfl rfl rfl (fun c133 => absurd c133 (by omega)) (fun c133 => ?_)
          replace c133 := (h_lcr hz132).2.1 c133
          clear hz132
          refine h_lload_n (pc' := 7) rfl rfl rfl ?_
          refine h_lload (pc' := 9) rfl rfl rfl ?_
          refine h_lcmp (pc' := 10) rfl rfl hz131 cl_7 (fun z134 hz134 => ?_)
          refine h_zgt (tg := 17) (pc' := 13) rfl rfl rfl rfl (fun c135 => absurd c135 (by omega)) (fun c135 => ?_)
          replace c135 := (h_lcr hz134).2.2.1 c135
          clear hz134
          refine h_iconst (pc' := 14) (x := (Int32.ofInt 1)) rfl rfl rfl ?_
          refine h_goto (pc' := 18) rfl rfl ?_
          refine h_zret rfl rfl ci_1 (by omega) (h_Kv ?_)
          clear hz131
          refine h_zne (tg := 14) (pc' := 12) rfl rfl rfl ci_1 (fun c136 => ?_) (fun c136 => absurd c136 (by omega))
          refine h_aload_n (pc' := 15) rfl rfl rfl ?_
          refine h_getI (pc' := 18) (v := s0 98 29) rfl rfl rfl rfl rfl rfl (fun z137 hz137 => ?_)
          have tz137 := tf_98_29 I0
          refine h_bipush (pc' := 20) (x := (Int32.ofInt 6)) rfl rfl cb_6 ?_
          refine h_cne (tg := 26) (pc' := 23) rfl rfl rfl hz137 ci_6 (fun c138 => absurd (Int.le_antisymm (by omega) (by omega)) c138) (fun c138 => ?_)
          clear hz137
          refine h_bipush (pc' := 25) (x := (Int32.ofInt (-3))) rfl rfl cb_m3 ?_
          refine h_iret rfl rfl (h_Kv ?_)
          clear hz127
          refine h_pop (pc' := 1072) rfl rfl rfl ?_
          refine h_goto (pc' := 1441) rfl rfl ?_
          exact kk _ I0 (by first | exact d_tape.le j0 (Int.le_antisymm (by omega) (by omega)) (by omega) (fun j => rfl) (fun j => rfl) | (exfalso; omega)) (Int.le_antisymm (by omega) (by omega)) j2 (g_ti.e j3 rfl) (g_SH.e j4 rfl rfl rfl rfl rfl rfl) (Int.le_antisymm (by omega) (by omega))
      · refine h_iconst (pc' := 11) (x := (Int32.ofInt (-1))) rfl rfl rfl ?_
        refine h_iret rfl rfl (h_Kv ?_)
        clear hz2
        refine h_pop (pc' := 1049) rfl rfl rfl ?_
        refine h_aload_n (pc' := 1050) rfl rfl rfl ?_
        refine h_aload_n (pc' := 1051) rfl rfl rfl ?_
        refine h_iload_n (pc' := 1052) rfl rfl rfl ?_
        refine h_iconst (pc' := 1053) (x := (Int32.ofInt 1)) rfl rfl rfl ?_
        refine h_iadd (pc' := 1054) rfl rfl hy3 ci_1 rfl (by omega) (by omega) (fun z139 hz139 => ?_)
        refine h_iald (pc' := 1055) (v := s0 0 (b3 + 1)) rfl rfl rfl hz139 (by omega) (by omega) rfl (fun z140 hz140 => ?_)
        have tz140 := h_rgv hz140
        clear hz139
        refine h_aload_n (pc' := 1056) rfl rfl rfl ?_
        refine h_iload_n (pc' := 1057) rfl rfl rfl ?_
        refine h_iconst (pc' := 1058) (x := (Int32.ofInt 2)) rfl rfl rfl ?_
        refine h_iadd (pc' := 1059) rfl rfl hy3 ci_2 rfl (by omega) (by omega) (fun z141 hz141 => ?_)
        refine h_iald (pc' := 1060) (v := s0 0 (b3 + 2)) rfl rfl rfl hz141 (by omega) (by omega) rfl (fun z142 hz142 => ?_)
        have tz142 := h_rgv hz142
        clear hz141
        refine h_zeq (tg := 1067) (pc' := 1063) rfl rfl rfl hz142 (fun c143 => absurd c143 (by omega)) (fun c143 => ?_)
        clear hz142
        refine h_iconst (pc' := 1064) (x := (Int32.ofInt 1)) rfl rfl rfl ?_
        refine h_goto (pc' := 1068) rfl rfl ?_
        refine h_call (sp := false) (pc' := 1071) (M := [(0, .ref 98), (1, .int z140), (2, .int (Int32.ofInt 1))]) rfl rfl rfl rfl rfl rfl rfl rfl ?_
        refine h_iload_n (pc' := 1) rfl rfl rfl ?_
        refine h_i2l (pc' := 2) rfl rfl hz140 (fun z144 hz144 => ?_)
        refine h_lconst (pc' := 3) (x := (Int64.ofInt 0)) rfl rfl rfl ?_
        refine h_ldc2 (pc' := 6) (x := (Int64.ofInt 7)) rfl rfl rfl ?_
        refine h_calls (pc' := 9) (M := [(0, .long z144), (2, .long (Int64.ofInt 0)), (4, .long (Int64.ofInt 7))]) rfl rfl rfl rfl rfl rfl ?_
        refine h_lload_n (pc' := 1) rfl rfl rfl ?_
        refine h_lload_n (pc' := 2) rfl rfl rfl ?_
        refine h_lcmp (pc' := 3) rfl rfl hz144 cl_0 (fun z145 hz145 => ?_)
        refine h_zlt (tg := 17) (pc' := 6) rfl rfl rfl rfl (fun c146 => absurd c146 (by omega)) (fun c146 => ?_)
        replace c146 := (h_lcr hz145).2.1 c146
        clear hz145
        refine h_lload_n (pc' := 7) rfl rfl rfl ?_
        refine h_lload (pc' := 9) rfl rfl rfl ?_
        refine h_lcmp (pc' := 10) rfl rfl hz144 cl_7 (fun z147 hz147 => ?_)
        refine h_zgt (tg := 17) (pc' := 13) rfl rfl rfl rfl (fun c148 => ?_) (fun c148 => absurd c148 (by omega))
        replace c148 := (h_lcr hz147).2.2.2.1 c148
        clear hz147
        refine h_iconst (pc' := 18) (x := (Int32.ofInt 0)) rfl rfl rfl ?_
        refine h_zret rfl rfl ci_0 (by omega) (h_Kv ?_)
        clear hz144
        refine h_zne (tg := 14) (pc' := 12) rfl rfl rfl ci_0 (fun c149 => absurd (Int.le_antisymm (by omega) (by omega)) c149) (fun c149 => ?_)
        refine h_iconst (pc' := 13) (x := (Int32.ofInt (-1))) rfl rfl rfl ?_
        refine h_iret rfl rfl (h_Kv ?_)
        clear hz140
        refine h_pop (pc' := 1072) rfl rfl rfl ?_
        refine h_goto (pc' := 1441) rfl rfl ?_
        exact kk _ I0 (by first | exact d_tape.le j0 (Int.le_antisymm (by omega) (by omega)) (by omega) (fun j => rfl) (fun j => rfl) | (exfalso; omega)) (Int.le_antisymm (by omega) (by omega)) j2 (g_ti.e j3 rfl) (g_SH.e j4 rfl rfl rfl rfl rfl rfl) (Int.le_antisymm (by omega) (by omega))
