/-! THE LAW -/
set_option maxHeartbeats 100000000 in
theorem g_case_212 {ns : Nat} (hns : ns ≤ 320) (s0 : h_S) (I0 : h_I s0) (j0 : d_tape s0 s0) (j1 : s0 64 4 = s0 98 16) (j2 : c_R false s0) (y3 : Int32) (b3 : Int) (hy3 : y3.toInt = b3) (hr : 0 ≤ b3 ∧ b3 + 5 ≤ ns) {Q : Option Value → h_S → Prop} (kk : ∀ τ, h_I τ → (d_tape τ τ) → (τ 64 4 = τ 98 16) → (c_R false τ) → h_T g_P (g_Y ns) 225 1441 [(0, .ref 0), (1, .ref 9), (2, .ref 98), (3, .int y3)] [] τ Q) : h_T g_P (g_Y ns) 225 212 [(0, .ref 0), (1, .ref 9), (2, .ref 98), (3, .int y3)] [] s0 Q := by
  have F0_ : h_F (fun _ _ => true) s0 s0 := h_F.rf
  have j0_ := j0.2
  have i0 := tf_64_1 I0
  have i1 := tf_98_11 I0
  have i2 := tf_64_4 I0
  have i3 := tf_98_16 I0
  have i4 := tf_63_2 I0
  have i5 := tf_10_8 I0
  have i6 := tf_98_1 I0
  have i7 := tf_10_9 I0
  have i8 := tf_98_2 I0
  have i9 := tf_10_10 I0
  have i11 := tf_13_2 I0
  have i13 := tf_16_2 I0
  have j2_ := j2.sz
  have j2i := j2.2.2.1
  have y43 := ty_99_10 I0 43 (by omega)
  have y18 := ty_99_3 I0 18 (by omega)
  have y25 := ty_99_5 I0 25 (by omega)
  have y62_0 := ty_62 I0 0
  have y62_1 := ty_62 I0 1
  have y110_0 := ty_110 I0 0
  have y110_1 := ty_110 I0 1
  refine h_aload_n (pc' := 213) rfl rfl rfl ?_
  refine h_aload_n (pc' := 214) rfl rfl rfl ?_
  refine h_iload_n (pc' := 215) rfl rfl rfl ?_
  refine h_iconst (pc' := 216) (x := (Int32.ofInt 1)) rfl rfl rfl ?_
  refine h_iadd (pc' := 217) rfl rfl hy3 ci_1 rfl (by omega) (by omega) (fun z1 hz1 => ?_)
  refine h_iald (pc' := 218) (v := s0 0 (b3 + 1)) rfl rfl rfl hz1 (by omega) (by omega) rfl (fun z2 hz2 => ?_)
  have tz2 := h_rgv hz2
  refine h_call (sp := false) (pc' := 221) (M := [(0, .ref 9), (1, .int z2)]) rfl rfl rfl rfl rfl rfl rfl rfl ?_
  refine h_iload_n (pc' := 1) rfl rfl rfl ?_
  refine h_zlt (tg := 10) (pc' := 4) rfl rfl rfl hz2 (fun c3 => ?_) (fun c3 => ?_)
  · refine h_iconst (pc' := 11) (x := (Int32.ofInt (-1))) rfl rfl rfl ?_
    refine h_iret rfl rfl (h_Kv ?_)
    refine h_pop (pc' := 222) rfl rfl rfl ?_
    refine h_aload_n (pc' := 223) rfl rfl rfl ?_
    refine h_aload_n (pc' := 224) rfl rfl rfl ?_
    refine h_iload_n (pc' := 225) rfl rfl rfl ?_
    refine h_iconst (pc' := 226) (x := (Int32.ofInt 1)) rfl rfl rfl ?_
    refine h_iadd (pc' := 227) rfl rfl hy3 ci_1 rfl (by omega) (by omega) (fun z4 hz4 => ?_)
    refine h_iald (pc' := 228) (v := s0 0 (b3 + 1)) rfl rfl rfl hz4 (by omega) (by omega) rfl (fun z5 hz5 => ?_)
    have tz5 := h_rgv hz5
    refine h_call (sp := false) (pc' := 231) (M := [(0, .ref 98), (1, .int z5)]) rfl rfl rfl rfl rfl rfl rfl rfl ?_
    refine h_iload_n (pc' := 1) rfl rfl rfl ?_
    refine h_i2l (pc' := 2) rfl rfl hz5 (fun z6 hz6 => ?_)
    refine h_lconst (pc' := 3) (x := (Int64.ofInt 0)) rfl rfl rfl ?_
    refine h_ldc2 (pc' := 6) (x := (Int64.ofInt 127)) rfl rfl rfl ?_
    refine h_calls (pc' := 9) (M := [(0, .long z6), (2, .long (Int64.ofInt 0)), (4, .long (Int64.ofInt 127))]) rfl rfl rfl rfl rfl rfl ?_
    refine h_lload_n (pc' := 1) rfl rfl rfl ?_
    refine h_lload_n (pc' := 2) rfl rfl rfl ?_
    refine h_lcmp (pc' := 3) rfl rfl hz6 cl_0 (fun z7 hz7 => ?_)
    refine h_zlt (tg := 17) (pc' := 6) rfl rfl rfl rfl (fun c8 => ?_) (fun c8 => absurd c8 (by omega))
    replace c8 := (h_lcr hz7).1 c8
    clear hz7
    refine h_iconst (pc' := 18) (x := (Int32.ofInt 0)) rfl rfl rfl ?_
    refine h_zret rfl rfl ci_0 (by omega) (h_Kv ?_)
    refine h_zne (tg := 14) (pc' := 12) rfl rfl rfl ci_0 (fun c9 => absurd (Int.le_antisymm (by omega) (by omega)) c9) (fun c9 => ?_)
    refine h_iconst (pc' := 13) (x := (Int32.ofInt (-1))) rfl rfl rfl ?_
    refine h_iret rfl rfl (h_Kv ?_)
    refine h_pop (pc' := 232) rfl rfl rfl ?_
    refine h_goto (pc' := 1441) rfl rfl ?_
    exact kk _ I0 (by first | exact d_tape.le j0 (Int.le_antisymm (by omega) (by omega)) (by omega) (fun j => rfl) (fun j => rfl) | (exfalso; omega)) (Int.le_antisymm (by omega) (by omega)) j2
  · refine h_iload_n (pc' := 5) rfl rfl rfl ?_
    refine h_bipush (pc' := 7) (x := (Int32.ofInt 127)) rfl rfl cb_127 ?_
    refine h_cle (tg := 12) (pc' := 10) rfl rfl rfl hz2 ci_127 (fun c10 => ?_) (fun c10 => ?_)
    · refine h_aload_n (pc' := 13) rfl rfl rfl ?_
      refine h_getR (pc' := 16) rfl rfl rfl rfl rfl ?_
      refine h_getR (pc' := 19) rfl rfl rfl rfl rfl ?_
      refine h_iload_n (pc' := 20) rfl rfl rfl ?_
      refine h_call (sp := false) (pc' := 23) (M := [(0, .ref 64), (1, .int z2)]) rfl rfl rfl rfl rfl rfl rfl rfl ?_
      refine h_aload_n (pc' := 1) rfl rfl rfl ?_
      refine h_getI (pc' := 4) (v := s0 64 1) rfl rfl rfl rfl rfl rfl (fun z11 hz11 => ?_)
      have tz11 := tf_64_1 I0
      refine h_sipush (pc' := 7) (x := (Int32.ofInt 160)) rfl rfl cs_160 ?_
      refine h_clt (tg := 12) (pc' := 10) rfl rfl rfl hz11 ci_160 (fun c12 => ?_) (fun c12 => ?_)
      · refine h_aload_n (pc' := 13) rfl rfl rfl ?_
        refine h_getR (pc' := 16) rfl rfl rfl rfl rfl ?_
        refine h_aload_n (pc' := 17) rfl rfl rfl ?_
        refine h_getI (pc' := 20) (v := s0 64 1) rfl rfl rfl rfl rfl rfl (fun z13 hz13 => ?_)
        have tz13 := tf_64_1 I0
        refine h_iload_n (pc' := 21) rfl rfl rfl ?_
        refine h_iast (pc' := 22) rfl rfl rfl rfl hz13 (by omega) (by omega) hz2 (h_fgt (E := fun s => s 64 1 = s0 64 1 ∧ s 98 11 = s0 98 11 ∧ s 64 4 = s0 64 4 ∧ s 98 16 = s0 98 16 ∧ s 63 2 = s0 63 2 ∧ s 10 8 = s0 10 8 ∧ s 98 1 = s0 98 1 ∧ s 10 9 = s0 10 9 ∧ s 98 2 = s0 98 2 ∧ s 10 10 = s0 10 10 ∧ s 99 43 = s0 99 43 ∧ s 13 2 = s0 13 2 ∧ s 99 18 = s0 99 18 ∧ s 16 2 = s0 16 2 ∧ s 99 25 = s0 99 25 ∧ s 62 0 = s0 62 0 ∧ s 110 0 = s0 110 0 ∧ s 62 1 = s0 62 1 ∧ s 110 1 = s0 110 1 ∧ s = h_up s0 65 (s0 64 1) (s0 0 (b3 + 1))) _ (in_65 I0 (by omega)) (F0_.up rfl) ⟨rfl, rfl, rfl, rfl, rfl, rfl, rfl, rfl, rfl, rfl, rfl, rfl, rfl, rfl, rfl, rfl, rfl, rfl, rfl, rfl⟩ (fun s14 Is14 Fs14 (es14 : s14 64 1 = s0 64 1 ∧ s14 98 11 = s0 98 11 ∧ s14 64 4 = s0 64 4 ∧ s14 98 16 = s0 98 16 ∧ s14 63 2 = s0 63 2 ∧ s14 10 8 = s0 10 8 ∧ s14 98 1 = s0 98 1 ∧ s14 10 9 = s0 10 9 ∧ s14 98 2 = s0 98 2 ∧ s14 10 10 = s0 10 10 ∧ s14 99 43 = s0 99 43 ∧ s14 13 2 = s0 13 2 ∧ s14 99 18 = s0 99 18 ∧ s14 16 2 = s0 16 2 ∧ s14 99 25 = s0 99 25 ∧ s14 62 0 = s0 62 0 ∧ s14 110 0 = s0 110 0 ∧ s14 62 1 = s0 62 1 ∧ s14 110 1 = s0 110 1 ∧ s14 = h_up s0 65 (s0 64 1) (s0 0 (b3 + 1))) => ?_))
        have us14 := es14.2.2.2.2.2.2.2.2.2.2.2.2.2.2.2.2.2.2.2
        have Zs14 : ∀ i, s14 0 i = s0 0 i := fun i => (h_upo us14 rfl i).trans rfl
        refine h_aload_n (pc' := 23) rfl rfl rfl ?_
        refine h_dup (pc' := 24) rfl rfl rfl ?_
        refine h_getI (pc' := 27) (v := s0 64 1) rfl rfl rfl rfl rfl es14.1 (fun z15 hz15 => ?_)
        have tz15 := tf_64_1 I0
        refine h_iconst (pc' := 28) (x := (Int32.ofInt 1)) rfl rfl rfl ?_
        refine h_iadd (pc' := 29) rfl rfl hz15 ci_1 rfl (by omega) (by omega) (fun z16 hz16 => ?_)
        refine h_put (pc' := 32) rfl rfl rfl rfl rfl rfl hz16 rfl (h_fgt (E := fun s => s 64 1 = ((s0 64 1) + 1) ∧ s 98 11 = s0 98 11 ∧ s 64 4 = s0 64 4 ∧ s 98 16 = s0 98 16 ∧ s 63 2 = s0 63 2 ∧ s 10 8 = s0 10 8 ∧ s 98 1 = s0 98 1 ∧ s 10 9 = s0 10 9 ∧ s 98 2 = s0 98 2 ∧ s 10 10 = s0 10 10 ∧ s 99 43 = s0 99 43 ∧ s 13 2 = s0 13 2 ∧ s 99 18 = s0 99 18 ∧ s 16 2 = s0 16 2 ∧ s 99 25 = s0 99 25 ∧ s 62 0 = s0 62 0 ∧ s 110 0 = s0 110 0 ∧ s 62 1 = s0 62 1 ∧ s 110 1 = s0 110 1 ∧ s = h_up s14 64 1 ((s0 64 1) + 1)) _ (if_64_1 Is14 (by omega)) (Fs14.up rfl) ⟨rfl, es14.2.1, es14.2.2.1, es14.2.2.2.1, es14.2.2.2.2.1, es14.2.2.2.2.2.1, es14.2.2.2.2.2.2.1, es14.2.2.2.2.2.2.2.1, es14.2.2.2.2.2.2.2.2.1, es14.2.2.2.2.2.2.2.2.2.1, es14.2.2.2.2.2.2.2.2.2.2.1, es14.2.2.2.2.2.2.2.2.2.2.2.1, es14.2.2.2.2.2.2.2.2.2.2.2.2.1, es14.2.2.2.2.2.2.2.2.2.2.2.2.2.1, es14.2.2.2.2.2.2.2.2.2.2.2.2.2.2.1, es14.2.2.2.2.2.2.2.2.2.2.2.2.2.2.2.1, es14.2.2.2.2.2.2.2.2.2.2.2.2.2.2.2.2.1, es14.2.2.2.2.2.2.2.2.2.2.2.2.2.2.2.2.2.1, es14.2.2.2.2.2.2.2.2.2.2.2.2.2.2.2.2.2.2.1, rfl⟩ (fun s17 Is17 Fs17 (es17 : s17 64 1 = ((s0 64 1) + 1) ∧ s17 98 11 = s0 98 11 ∧ s17 64 4 = s0 64 4 ∧ s17 98 16 = s0 98 16 ∧ s17 63 2 = s0 63 2 ∧ s17 10 8 = s0 10 8 ∧ s17 98 1 = s0 98 1 ∧ s17 10 9 = s0 10 9 ∧ s17 98 2 = s0 98 2 ∧ s17 10 10 = s0 10 10 ∧ s17 99 43 = s0 99 43 ∧ s17 13 2 = s0 13 2 ∧ s17 99 18 = s0 99 18 ∧ s17 16 2 = s0 16 2 ∧ s17 99 25 = s0 99 25 ∧ s17 62 0 = s0 62 0 ∧ s17 110 0 = s0 110 0 ∧ s17 62 1 = s0 62 1 ∧ s17 110 1 = s0 110 1 ∧ s17 = h_up s14 64 1 ((s0 64 1) + 1)) => ?_))
        clear es14
        have us17 := es17.2.2.2.2.2.2.2.2.2.2.2.2.2.2.2.2.2.2.2
        have Zs17 : ∀ i, s17 0 i = s0 0 i := fun i => (h_upo us17 rfl i).trans (Zs14 i)
        refine h_iconst (pc' := 33) (x := (Int32.ofInt 1)) rfl rfl rfl ?_
        refine h_zret rfl rfl ci_1 (by omega) (h_Kv ?_)
        refine h_zeq (tg := 39) (pc' := 26) rfl rfl rfl ci_1 (fun c18 => absurd c18 (by omega)) (fun c18 => ?_)
        refine h_aload_n (pc' := 27) rfl rfl rfl ?_
        refine h_getR (pc' := 30) rfl rfl rfl rfl rfl ?_
        refine h_getR (pc' := 33) rfl rfl rfl rfl rfl ?_
        refine h_getI (pc' := 36) (v := ((s0 64 1) + 1)) rfl rfl rfl rfl rfl es17.1 (fun z19 hz19 => ?_)
        refine h_goto (pc' := 41) rfl rfl ?_
        refine h_iret rfl rfl (h_Kv ?_)
        refine h_pop (pc' := 222) rfl rfl rfl ?_
        refine h_aload_n (pc' := 223) rfl rfl rfl ?_
        refine h_aload_n (pc' := 224) rfl rfl rfl ?_
        refine h_iload_n (pc' := 225) rfl rfl rfl ?_
        refine h_iconst (pc' := 226) (x := (Int32.ofInt 1)) rfl rfl rfl ?_
        refine h_iadd (pc' := 227) rfl rfl hy3 ci_1 rfl (by omega) (by omega) (fun z20 hz20 => ?_)
        refine h_iald (pc' := 228) (v := s0 0 (b3 + 1)) rfl rfl rfl hz20 (by omega) (by omega) (Zs17 _) (fun z21 hz21 => ?_)
        have tz21 := h_rgv hz21
        refine h_call (sp := false) (pc' := 231) (M := [(0, .ref 98), (1, .int z21)]) rfl rfl rfl rfl rfl rfl rfl rfl ?_
        refine h_iload_n (pc' := 1) rfl rfl rfl ?_
        refine h_i2l (pc' := 2) rfl rfl hz21 (fun z22 hz22 => ?_)
        refine h_lconst (pc' := 3) (x := (Int64.ofInt 0)) rfl rfl rfl ?_
        refine h_ldc2 (pc' := 6) (x := (Int64.ofInt 127)) rfl rfl rfl ?_
        refine h_calls (pc' := 9) (M := [(0, .long z22), (2, .long (Int64.ofInt 0)), (4, .long (Int64.ofInt 127))]) rfl rfl rfl rfl rfl rfl ?_
        refine h_lload_n (pc' := 1) rfl rfl rfl ?_
        refine h_lload_n (pc' := 2) rfl rfl rfl ?_
        refine h_lcmp (pc' := 3) rfl rfl hz22 cl_0 (fun z23 hz23 => ?_)
        refine h_zlt (tg := 17) (pc' := 6) rfl rfl rfl rfl (fun c24 => absurd c24 (by omega)) (fun c24 => ?_)
        replace c24 := (h_lcr hz23).2.1 c24
        clear hz23
        refine h_lload_n (pc' := 7) rfl rfl rfl ?_
        refine h_lload (pc' := 9) rfl rfl rfl ?_
        refine h_lcmp (pc' := 10) rfl rfl hz22 cl_127 (fun z25 hz25 => ?_)
        refine h_zgt (tg := 17) (pc' := 13) rfl rfl rfl rfl (fun c26 => absurd c26 (by omega)) (fun c26 => ?_)
        replace c26 := (h_lcr hz25).2.2.1 c26
        clear hz25
        refine h_iconst (pc' := 14) (x := (Int32.ofInt 1)) rfl rfl rfl ?_
        refine h_goto (pc' := 18) rfl rfl ?_
        refine h_zret rfl rfl ci_1 (by omega) (h_Kv ?_)
        refine h_zne (tg := 14) (pc' := 12) rfl rfl rfl ci_1 (fun c27 => ?_) (fun c27 => absurd c27 (by omega))
        refine h_aload_n (pc' := 15) rfl rfl rfl ?_
        refine h_getI (pc' := 18) (v := s0 98 11) rfl rfl rfl rfl rfl es17.2.1 (fun z28 hz28 => ?_)
        have tz28 := tf_98_11 I0
        refine h_sipush (pc' := 21) (x := (Int32.ofInt 160)) rfl rfl cs_160 ?_
        refine h_cne (tg := 27) (pc' := 24) rfl rfl rfl hz28 ci_160 (fun c29 => ?_) (fun c29 => absurd c29 (by omega))
        refine h_aload_n (pc' := 28) rfl rfl rfl ?_
        refine h_getR (pc' := 31) rfl rfl rfl rfl rfl ?_
        refine h_aload_n (pc' := 32) rfl rfl rfl ?_
        refine h_getI (pc' := 35) (v := s0 98 11) rfl rfl rfl rfl rfl es17.2.1 (fun z30 hz30 => ?_)
        have tz30 := tf_98_11 I0
        refine h_iload_n (pc' := 36) rfl rfl rfl ?_
        refine h_iast (pc' := 37) rfl rfl rfl rfl hz30 (by omega) (by omega) hz21 (h_fgt (E := fun s => s 64 1 = ((s0 64 1) + 1) ∧ s 98 11 = s0 98 11 ∧ s 64 4 = s0 64 4 ∧ s 98 16 = s0 98 16 ∧ s 63 2 = s0 63 2 ∧ s 10 8 = s0 10 8 ∧ s 98 1 = s0 98 1 ∧ s 10 9 = s0 10 9 ∧ s 98 2 = s0 98 2 ∧ s 10 10 = s0 10 10 ∧ s 99 43 = s0 99 43 ∧ s 13 2 = s0 13 2 ∧ s 99 18 = s0 99 18 ∧ s 16 2 = s0 16 2 ∧ s 99 25 = s0 99 25 ∧ s 62 0 = s0 62 0 ∧ s 110 0 = s0 110 0 ∧ s 62 1 = s0 62 1 ∧ s 110 1 = s0 110 1 ∧ s = h_up s17 102 (s0 98 11) (s0 0 (b3 + 1))) _ (in_102 Is17 (by omega)) (Fs17.up rfl) ⟨es17.1, es17.2.1, es17.2.2.1, es17.2.2.2.1, es17.2.2.2.2.1, es17.2.2.2.2.2.1, es17.2.2.2.2.2.2.1, es17.2.2.2.2.2.2.2.1, es17.2.2.2.2.2.2.2.2.1, es17.2.2.2.2.2.2.2.2.2.1, es17.2.2.2.2.2.2.2.2.2.2.1, es17.2.2.2.2.2.2.2.2.2.2.2.1, es17.2.2.2.2.2.2.2.2.2.2.2.2.1, es17.2.2.2.2.2.2.2.2.2.2.2.2.2.1, es17.2.2.2.2.2.2.2.2.2.2.2.2.2.2.1, es17.2.2.2.2.2.2.2.2.2.2.2.2.2.2.2.1, es17.2.2.2.2.2.2.2.2.2.2.2.2.2.2.2.2.1, es17.2.2.2.2.2.2.2.2.2.2.2.2.2.2.2.2.2.1, es17.2.2.2.2.2.2.2.2.2.2.2.2.2.2.2.2.2.2.1, rfl⟩ (fun s31 Is31 Fs31 (es31 : s31 64 1 = ((s0 64 1) + 1) ∧ s31 98 11 = s0 98 11 ∧ s31 64 4 = s0 64 4 ∧ s31 98 16 = s0 98 16 ∧ s31 63 2 = s0 63 2 ∧ s31 10 8 = s0 10 8 ∧ s31 98 1 = s0 98 1 ∧ s31 10 9 = s0 10 9 ∧ s31 98 2 = s0 98 2 ∧ s31 10 10 = s0 10 10 ∧ s31 99 43 = s0 99 43 ∧ s31 13 2 = s0 13 2 ∧ s31 99 18 = s0 99 18 ∧ s31 16 2 = s0 16 2 ∧ s31 99 25 = s0 99 25 ∧ s31 62 0 = s0 62 0 ∧ s31 110 0 = s0 110 0 ∧ s31 62 1 = s0 62 1 ∧ s31 110 1 = s0 110 1 ∧ s31 = h_up s17 102 (s0 98 11) (s0 0 (b3 + 1))) => ?_))
        clear es17
        have us31 := es31.2.2.2.2.2.2.2.2.2.2.2.2.2.2.2.2.2.2.2
        have Zs31 : ∀ i, s31 0 i = s0 0 i := fun i => (h_upo us31 rfl i).trans (Zs17 i)
        refine h_aload_n (pc' := 38) rfl rfl rfl ?_
        refine h_dup (pc' := 39) rfl rfl rfl ?_
        refine h_getI (pc' := 42) (v := s0 98 11) rfl rfl rfl rfl rfl es31.2.1 (fun z32 hz32 => ?_)
        have tz32 := tf_98_11 I0
        refine h_iconst (pc' := 43) (x := (Int32.ofInt 1)) rfl rfl rfl ?_
        refine h_iadd (pc' := 44) rfl rfl hz32 ci_1 rfl (by omega) (by omega) (fun z33 hz33 => ?_)
        refine h_put (pc' := 47) rfl rfl rfl rfl rfl rfl hz33 rfl (h_fgt (E := fun s => s 64 1 = ((s0 64 1) + 1) ∧ s 98 11 = ((s0 98 11) + 1) ∧ s 64 4 = s0 64 4 ∧ s 98 16 = s0 98 16 ∧ s 63 2 = s0 63 2 ∧ s 10 8 = s0 10 8 ∧ s 98 1 = s0 98 1 ∧ s 10 9 = s0 10 9 ∧ s 98 2 = s0 98 2 ∧ s 10 10 = s0 10 10 ∧ s 99 43 = s0 99 43 ∧ s 13 2 = s0 13 2 ∧ s 99 18 = s0 99 18 ∧ s 16 2 = s0 16 2 ∧ s 99 25 = s0 99 25 ∧ s 62 0 = s0 62 0 ∧ s 110 0 = s0 110 0 ∧ s 62 1 = s0 62 1 ∧ s 110 1 = s0 110 1 ∧ s = h_up s31 98 11 ((s0 98 11) + 1)) _ (if_98_11 Is31 (by omega)) (Fs31.up rfl) ⟨es31.1, rfl, es31.2.2.1, es31.2.2.2.1, es31.2.2.2.2.1, es31.2.2.2.2.2.1, es31.2.2.2.2.2.2.1, es31.2.2.2.2.2.2.2.1, es31.2.2.2.2.2.2.2.2.1, es31.2.2.2.2.2.2.2.2.2.1, es31.2.2.2.2.2.2.2.2.2.2.1, es31.2.2.2.2.2.2.2.2.2.2.2.1, es31.2.2.2.2.2.2.2.2.2.2.2.2.1, es31.2.2.2.2.2.2.2.2.2.2.2.2.2.1, es31.2.2.2.2.2.2.2.2.2.2.2.2.2.2.1, es31.2.2.2.2.2.2.2.2.2.2.2.2.2.2.2.1, es31.2.2.2.2.2.2.2.2.2.2.2.2.2.2.2.2.1, es31.2.2.2.2.2.2.2.2.2.2.2.2.2.2.2.2.2.1, es31.2.2.2.2.2.2.2.2.2.2.2.2.2.2.2.2.2.2.1, rfl⟩ (fun s34 Is34 Fs34 (es34 : s34 64 1 = ((s0 64 1) + 1) ∧ s34 98 11 = ((s0 98 11) + 1) ∧ s34 64 4 = s0 64 4 ∧ s34 98 16 = s0 98 16 ∧ s34 63 2 = s0 63 2 ∧ s34 10 8 = s0 10 8 ∧ s34 98 1 = s0 98 1 ∧ s34 10 9 = s0 10 9 ∧ s34 98 2 = s0 98 2 ∧ s34 10 10 = s0 10 10 ∧ s34 99 43 = s0 99 43 ∧ s34 13 2 = s0 13 2 ∧ s34 99 18 = s0 99 18 ∧ s34 16 2 = s0 16 2 ∧ s34 99 25 = s0 99 25 ∧ s34 62 0 = s0 62 0 ∧ s34 110 0 = s0 110 0 ∧ s34 62 1 = s0 62 1 ∧ s34 110 1 = s0 110 1 ∧ s34 = h_up s31 98 11 ((s0 98 11) + 1)) => ?_))
        clear es31
        have us34 := es34.2.2.2.2.2.2.2.2.2.2.2.2.2.2.2.2.2.2.2
        have Zs34 : ∀ i, s34 0 i = s0 0 i := fun i => (h_upo us34 rfl i).trans (Zs31 i)
        refine h_aload_n (pc' := 48) rfl rfl rfl ?_
        refine h_getI (pc' := 51) (v := ((s0 98 11) + 1)) rfl rfl rfl rfl rfl es34.2.1 (fun z35 hz35 => ?_)
        refine h_iret rfl rfl (h_Kv ?_)
        refine h_pop (pc' := 232) rfl rfl rfl ?_
        refine h_goto (pc' := 1441) rfl rfl ?_
        exact kk _ Is34 (by first | exact d_tape.fd j0 (Int.le_antisymm (by omega) (by omega)) (Int.le_antisymm (by omega) (by omega)) (fun j => (h_upo us34 rfl j).trans ((h_upo us31 rfl j).trans ((h_upo us17 rfl j).trans ((h_upi us14 j))))) (fun j => (h_upo us34 rfl j).trans ((h_upi us31 j).trans (congrArg (fun z => if j = (s0 98 11) then (s0 0 (b3 + 1)) else z) ((h_upo us17 rfl j).trans ((h_upo us14 rfl j)))))) (Int.le_antisymm (by omega) (by omega)) | (exfalso; omega)) (Int.le_antisymm (by omega) (by omega)) (c_R.up98 (c_R.up (c_R.up (c_R.up j2 I0 us14 rfl) Is14 us17 rfl) Is17 us31 rfl) Is31 us34 (by decide) (by decide))
      · refine h_iconst (pc' := 11) (x := (Int32.ofInt 0)) rfl rfl rfl ?_
        refine h_zret rfl rfl ci_0 (by omega) (h_Kv ?_)
        refine h_zeq (tg := 39) (pc' := 26) rfl rfl rfl ci_0 (fun c36 => ?_) (fun c36 => absurd (Int.le_antisymm (by omega) (by omega)) c36)
        refine h_bipush (pc' := 41) (x := (Int32.ofInt (-3))) rfl rfl cb_m3 ?_
        refine h_iret rfl rfl (h_Kv ?_)
        refine h_pop (pc' := 222) rfl rfl rfl ?_
        refine h_aload_n (pc' := 223) rfl rfl rfl ?_
        refine h_aload_n (pc' := 224) rfl rfl rfl ?_
        refine h_iload_n (pc' := 225) rfl rfl rfl ?_
        refine h_iconst (pc' := 226) (x := (Int32.ofInt 1)) rfl rfl rfl ?_
        refine h_iadd (pc' := 227) rfl rfl hy3 ci_1 rfl (by omega) (by omega) (fun z37 hz37 => ?_)
        refine h_iald (pc' := 228) (v := s0 0 (b3 + 1)) rfl rfl rfl hz37 (by omega) (by omega) rfl (fun z38 hz38 => ?_)
        have tz38 := h_rgv hz38
        refine h_call (sp := false) (pc' := 231) (M := [(0, .ref 98), (1, .int z38)]) rfl rfl rfl rfl rfl rfl rfl rfl ?_
        refine h_iload_n (pc' := 1) rfl rfl rfl ?_
        refine h_i2l (pc' := 2) rfl rfl hz38 (fun z39 hz39 => ?_)
        refine h_lconst (pc' := 3) (x := (Int64.ofInt 0)) rfl rfl rfl ?_
        refine h_ldc2 (pc' := 6) (x := (Int64.ofInt 127)) rfl rfl rfl ?_
        refine h_calls (pc' := 9) (M := [(0, .long z39), (2, .long (Int64.ofInt 0)), (4, .long (Int64.ofInt 127))]) rfl rfl rfl rfl rfl rfl ?_
        refine h_lload_n (pc' := 1) rfl rfl rfl ?_
        refine h_lload_n (pc' := 2) rfl rfl rfl ?_
        refine h_lcmp (pc' := 3) rfl rfl hz39 cl_0 (fun z40 hz40 => ?_)
        refine h_zlt (tg := 17) (pc' := 6) rfl rfl rfl rfl (fun c41 => absurd c41 (by omega)) (fun c41 => ?_)
        replace c41 := (h_lcr hz40).2.1 c41
        clear hz40
        refine h_lload_n (pc' := 7) rfl rfl rfl ?_
        refine h_lload (pc' := 9) rfl rfl rfl ?_
        refine h_lcmp (pc' := 10) rfl rfl hz39 cl_127 (fun z42 hz42 => ?_)
        refine h_zgt (tg := 17) (pc' := 13) rfl rfl rfl rfl (fun c43 => absurd c43 (by omega)) (fun c43 => ?_)
        replace c43 := (h_lcr hz42).2.2.1 c43
        clear hz42
        refine h_iconst (pc' := 14) (x := (Int32.ofInt 1)) rfl rfl rfl ?_
        refine h_goto (pc' := 18) rfl rfl ?_
        refine h_zret rfl rfl ci_1 (by omega) (h_Kv ?_)
        refine h_zne (tg := 14) (pc' := 12) rfl rfl rfl ci_1 (fun c44 => ?_) (fun c44 => absurd c44 (by omega))
        refine h_aload_n (pc' := 15) rfl rfl rfl ?_
        refine h_getI (pc' := 18) (v := s0 98 11) rfl rfl rfl rfl rfl rfl (fun z45 hz45 => ?_)
        have tz45 := tf_98_11 I0
        refine h_sipush (pc' := 21) (x := (Int32.ofInt 160)) rfl rfl cs_160 ?_
        refine h_cne (tg := 27) (pc' := 24) rfl rfl rfl hz45 ci_160 (fun c46 => absurd (Int.le_antisymm (by omega) (by omega)) c46) (fun c46 => ?_)
        refine h_bipush (pc' := 26) (x := (Int32.ofInt (-3))) rfl rfl cb_m3 ?_
        refine h_iret rfl rfl (h_Kv ?_)
        refine h_pop (pc' := 232) rfl rfl rfl ?_
        refine h_goto (pc' := 1441) rfl rfl ?_
        exact kk _ I0 (by first | exact d_tape.le j0 (Int.le_antisymm (by omega) (by omega)) (by omega) (fun j => rfl) (fun j => rfl) | (exfalso; omega)) (Int.le_antisymm (by omega) (by omega)) j2
    · refine h_iconst (pc' := 11) (x := (Int32.ofInt (-1))) rfl rfl rfl ?_
      refine h_iret rfl rfl (h_Kv ?_)
      refine h_pop (pc' := 222) rfl rfl rfl ?_
      refine h_aload_n (pc' := 223) rfl rfl rfl ?_
      refine h_aload_n (pc' := 224) rfl rfl rfl ?_
      refine h_iload_n (pc' := 225) rfl rfl rfl ?_
      refine h_iconst (pc' := 226) (x := (Int32.ofInt 1)) rfl rfl rfl ?_
      refine h_iadd (pc' := 227) rfl rfl hy3 ci_1 rfl (by omega) (by omega) (fun z47 hz47 => ?_)
      refine h_iald (pc' := 228) (v := s0 0 (b3 + 1)) rfl rfl rfl hz47 (by omega) (by omega) rfl (fun z48 hz48 => ?_)
      have tz48 := h_rgv hz48
      refine h_call (sp := false) (pc' := 231) (M := [(0, .ref 98), (1, .int z48)]) rfl rfl rfl rfl rfl rfl rfl rfl ?_
      refine h_iload_n (pc' := 1) rfl rfl rfl ?_
      refine h_i2l (pc' := 2) rfl rfl hz48 (fun z49 hz49 => ?_)
      refine h_lconst (pc' := 3) (x := (Int64.ofInt 0)) rfl rfl rfl ?_
      refine h_ldc2 (pc' := 6) (x := (Int64.ofInt 127)) rfl rfl rfl ?_
      refine h_calls (pc' := 9) (M := [(0, .long z49), (2, .long (Int64.ofInt 0)), (4, .long (Int64.ofInt 127))]) rfl rfl rfl rfl rfl rfl ?_
      refine h_lload_n (pc' := 1) rfl rfl rfl ?_
      refine h_lload_n (pc' := 2) rfl rfl rfl ?_
      refine h_lcmp (pc' := 3) rfl rfl hz49 cl_0 (fun z50 hz50 => ?_)
      refine h_zlt (tg := 17) (pc' := 6) rfl rfl rfl rfl (fun c51 => absurd c51 (by omega)) (fun c51 => ?_)
      replace c51 := (h_lcr hz50).2.1 c51
      clear hz50
      refine h_lload_n (pc' := 7) rfl rfl rfl ?_
      refine h_lload (pc' := 9) rfl rfl rfl ?_
      refine h_lcmp (pc' := 10) rfl rfl hz49 cl_127 (fun z52 hz52 => ?_)
      refine h_zgt (tg := 17) (pc' := 13) rfl rfl rfl rfl (fun c53 => ?_) (fun c53 => absurd c53 (by omega))
      replace c53 := (h_lcr hz52).2.2.2.1 c53
      clear hz52
      refine h_iconst (pc' := 18) (x := (Int32.ofInt 0)) rfl rfl rfl ?_
      refine h_zret rfl rfl ci_0 (by omega) (h_Kv ?_)
      refine h_zne (tg := 14) (pc' := 12) rfl rfl rfl ci_0 (fun c54 => absurd (Int.le_antisymm (by omega) (by omega)) c54) (fun c54 => ?_)
      refine h_iconst (pc' := 13) (x := (Int32.ofInt (-1))) rfl rfl rfl ?_
      refine h_iret rfl rfl (h_Kv ?_)
      refine h_pop (pc' := 232) rfl rfl rfl ?_
      refine h_goto (pc' := 1441) rfl rfl ?_
      exact kk _ I0 (by first | exact d_tape.le j0 (Int.le_antisymm (by omega) (by omega)) (by omega) (fun j => rfl) (fun j => rfl) | (exfalso; omega)) (Int.le_antisymm (by omega) (by omega)) j2
set_option maxHeartbeats 100000000 in
theorem g_case_235 {ns : Nat} (hns : ns ≤ 320) (s0 : h_S) (I0 : h_I s0) (j0 : d_tape s0 s0) (j1 : s0 64 4 = s0 98 16) (j2 : c_R false s0) (y3 : Int32) (b3 : Int) (hy3 : y3.toInt = b3) (hr : 0 ≤ b3 ∧ b3 + 5 ≤ ns) {Q : Option Value → h_S → Prop} (kk : ∀ τ, h_I τ → (d_tape τ τ) → (τ 64 4 = τ 98 16) → (c_R false τ) → h_T g_P (g_Y ns) 225 1441 [(0, .ref 0), (1, .ref 9), (2, .ref 98), (3, .int y3)] [] τ Q) : h_T g_P (g_Y ns) 225 235 [(0, .ref 0), (1, .ref 9), (2, .ref 98), (3, .int y3)] [] s0 Q := by
  have F0_ : h_F (fun _ _ => true) s0 s0 := h_F.rf
  have j0_ := j0.2
  have i0 := tf_64_1 I0
  have i1 := tf_98_11 I0
  have i2 := tf_64_4 I0
  have i3 := tf_98_16 I0
  have i4 := tf_63_2 I0
  have i5 := tf_10_8 I0
  have i6 := tf_98_1 I0
  have i7 := tf_10_9 I0
  have i8 := tf_98_2 I0
  have i9 := tf_10_10 I0
  have i11 := tf_13_2 I0
  have i13 := tf_16_2 I0
  have j2_ := j2.sz
  have j2i := j2.2.2.1
  have y43 := ty_99_10 I0 43 (by omega)
  have y18 := ty_99_3 I0 18 (by omega)
  have y25 := ty_99_5 I0 25 (by omega)
  have y62_0 := ty_62 I0 0
  have y62_1 := ty_62 I0 1
  have y110_0 := ty_110 I0 0
  have y110_1 := ty_110 I0 1
  refine h_aload_n (pc' := 236) rfl rfl rfl ?_
  refine h_aload_n (pc' := 237) rfl rfl rfl ?_
  refine h_iload_n (pc' := 238) rfl rfl rfl ?_
  refine h_iconst (pc' := 239) (x := (Int32.ofInt 1)) rfl rfl rfl ?_
  refine h_iadd (pc' := 240) rfl rfl hy3 ci_1 rfl (by omega) (by omega) (fun z1 hz1 => ?_)
  refine h_iald (pc' := 241) (v := s0 0 (b3 + 1)) rfl rfl rfl hz1 (by omega) (by omega) rfl (fun z2 hz2 => ?_)
  have tz2 := h_rgv hz2
  refine h_call (sp := false) (pc' := 244) (M := [(0, .ref 9), (1, .int z2)]) rfl rfl rfl rfl rfl rfl rfl rfl ?_
  refine v_endX _ I0 z2 _ hz2 (fun r3 br3 hr3 s4 Is4 Gs4 tr3 ps4_0 ps4_1 => h_Kv ?_)
  have Zs4 : ∀ i, s4 0 i = s0 0 i := fun i => (Gs4 0 i rfl).trans rfl
  have Fs4 : h_F (fun _ _ => true) s4 s0 := fun _ _ h => by cases h
  have es4_1 : s4 98 11 = s0 98 11 := (Gs4 98 11 rfl).trans rfl
  have es4_2 : s4 64 4 = s0 64 4 := (Gs4 64 4 rfl).trans rfl
  have es4_3 : s4 98 16 = s0 98 16 := (Gs4 98 16 rfl).trans rfl
  have es4_4 : s4 63 2 = s0 63 2 := (Gs4 63 2 rfl).trans rfl
  have es4_5 : s4 10 8 = s0 10 8 := (Gs4 10 8 rfl).trans rfl
  have es4_6 : s4 98 1 = s0 98 1 := (Gs4 98 1 rfl).trans rfl
  have es4_7 : s4 10 9 = s0 10 9 := (Gs4 10 9 rfl).trans rfl
  have es4_8 : s4 98 2 = s0 98 2 := (Gs4 98 2 rfl).trans rfl
  have es4_9 : s4 10 10 = s0 10 10 := (Gs4 10 10 rfl).trans rfl
  have es4_10 : s4 99 43 = s0 99 43 := (Gs4 99 43 rfl).trans rfl
  have es4_11 : s4 13 2 = s0 13 2 := (Gs4 13 2 rfl).trans rfl
  have es4_12 : s4 99 18 = s0 99 18 := (Gs4 99 18 rfl).trans rfl
  have es4_13 : s4 16 2 = s0 16 2 := (Gs4 16 2 rfl).trans rfl
  have es4_14 : s4 99 25 = s0 99 25 := (Gs4 99 25 rfl).trans rfl
  have es4_15 : s4 62 0 = s0 62 0 := (Gs4 62 0 rfl).trans rfl
  have es4_16 : s4 110 0 = s0 110 0 := (Gs4 110 0 rfl).trans rfl
  have es4_17 : s4 62 1 = s0 62 1 := (Gs4 62 1 rfl).trans rfl
  have es4_18 : s4 110 1 = s0 110 1 := (Gs4 110 1 rfl).trans rfl
  refine h_pop (pc' := 245) rfl rfl rfl ?_
  refine h_aload_n (pc' := 246) rfl rfl rfl ?_
  refine h_aload_n (pc' := 247) rfl rfl rfl ?_
  refine h_iload_n (pc' := 248) rfl rfl rfl ?_
  refine h_iconst (pc' := 249) (x := (Int32.ofInt 1)) rfl rfl rfl ?_
  refine h_iadd (pc' := 250) rfl rfl hy3 ci_1 rfl (by omega) (by omega) (fun z5 hz5 => ?_)
  refine h_iald (pc' := 251) (v := s0 0 (b3 + 1)) rfl rfl rfl hz5 (by omega) (by omega) (Zs4 _) (fun z6 hz6 => ?_)
  have tz6 := h_rgv hz6
  refine h_call (sp := false) (pc' := 254) (M := [(0, .ref 98), (1, .int z6)]) rfl rfl rfl rfl rfl rfl rfl rfl ?_
  refine v_endM _ Is4 z6 _ hz6 (fun r7 br7 hr7 s8 Is8 Gs8 tr7 ps8_0 ps8_1 => h_Kv ?_)
  have Zs8 : ∀ i, s8 0 i = s0 0 i := fun i => (Gs8 0 i rfl).trans (Zs4 i)
  have Fs8 : h_F (fun _ _ => true) s8 s0 := fun _ _ h => by cases h
  have es8_0 : s8 64 1 = s4 64 1 := (Gs8 64 1 rfl).trans rfl
  have es8_2 : s8 64 4 = s0 64 4 := (Gs8 64 4 rfl).trans es4_2
  have es8_3 : s8 98 16 = s0 98 16 := (Gs8 98 16 rfl).trans es4_3
  have es8_4 : s8 63 2 = s0 63 2 := (Gs8 63 2 rfl).trans es4_4
  have es8_5 : s8 10 8 = s0 10 8 := (Gs8 10 8 rfl).trans es4_5
  have es8_6 : s8 98 1 = s0 98 1 := (Gs8 98 1 rfl).trans es4_6
  have es8_7 : s8 10 9 = s0 10 9 := (Gs8 10 9 rfl).trans es4_7
  have es8_8 : s8 98 2 = s0 98 2 := (Gs8 98 2 rfl).trans es4_8
  have es8_9 : s8 10 10 = s0 10 10 := (Gs8 10 10 rfl).trans es4_9
  have es8_10 : s8 99 43 = s0 99 43 := (Gs8 99 43 rfl).trans es4_10
  have es8_11 : s8 13 2 = s0 13 2 := (Gs8 13 2 rfl).trans es4_11
  have es8_12 : s8 99 18 = s0 99 18 := (Gs8 99 18 rfl).trans es4_12
  have es8_13 : s8 16 2 = s0 16 2 := (Gs8 16 2 rfl).trans es4_13
  have es8_14 : s8 99 25 = s0 99 25 := (Gs8 99 25 rfl).trans es4_14
  have es8_15 : s8 62 0 = s0 62 0 := (Gs8 62 0 rfl).trans es4_15
  have es8_16 : s8 110 0 = s0 110 0 := (Gs8 110 0 rfl).trans es4_16
  have es8_17 : s8 62 1 = s0 62 1 := (Gs8 62 1 rfl).trans es4_17
  have es8_18 : s8 110 1 = s0 110 1 := (Gs8 110 1 rfl).trans es4_18
  refine h_pop (pc' := 255) rfl rfl rfl ?_
  refine h_goto (pc' := 1441) rfl rfl ?_
  exact kk _ Is8 (by first | exact d_tape.le j0 (Int.le_antisymm (by omega) (by omega)) (by omega) (fun j => (Gs8 65 j rfl).trans ((Gs4 65 j rfl))) (fun j => (Gs8 102 j rfl).trans ((Gs4 102 j rfl))) | (exfalso; omega)) (Int.le_antisymm (by omega) (by omega)) (c_R.fr (c_R.fr j2 I0 Gs4 rfl) Is4 Gs8 rfl)
set_option maxHeartbeats 100000000 in
theorem g_case_258 {ns : Nat} (hns : ns ≤ 320) (s0 : h_S) (I0 : h_I s0) (j0 : d_tape s0 s0) (j1 : s0 64 4 = s0 98 16) (j2 : c_R false s0) (y3 : Int32) (b3 : Int) (hy3 : y3.toInt = b3) (hr : 0 ≤ b3 ∧ b3 + 5 ≤ ns) {Q : Option Value → h_S → Prop} (kk : ∀ τ, h_I τ → (d_tape τ τ) → (τ 64 4 = τ 98 16) → (c_R false τ) → h_T g_P (g_Y ns) 225 1441 [(0, .ref 0), (1, .ref 9), (2, .ref 98), (3, .int y3)] [] τ Q) : h_T g_P (g_Y ns) 225 258 [(0, .ref 0), (1, .ref 9), (2, .ref 98), (3, .int y3)] [] s0 Q := by
  have F0_ : h_F (fun _ _ => true) s0 s0 := h_F.rf
  have j0_ := j0.2
  have i0 := tf_64_1 I0
  have i1 := tf_98_11 I0
  have i2 := tf_64_4 I0
  have i3 := tf_98_16 I0
  have i4 := tf_63_2 I0
  have i5 := tf_10_8 I0
  have i6 := tf_98_1 I0
  have i7 := tf_10_9 I0
  have i8 := tf_98_2 I0
  have i9 := tf_10_10 I0
  have i11 := tf_13_2 I0
  have i13 := tf_16_2 I0
  have j2_ := j2.sz
  have j2i := j2.2.2.1
  have y43 := ty_99_10 I0 43 (by omega)
  have y18 := ty_99_3 I0 18 (by omega)
  have y25 := ty_99_5 I0 25 (by omega)
  have y62_0 := ty_62 I0 0
  have y62_1 := ty_62 I0 1
  have y110_0 := ty_110 I0 0
  have y110_1 := ty_110 I0 1
  refine h_aload_n (pc' := 259) rfl rfl rfl ?_
  refine h_call (sp := false) (pc' := 262) (M := [(0, .ref 9)]) rfl rfl rfl rfl rfl rfl rfl rfl ?_
  refine v_textXM _ I0 j0 (by omega) (fun r1 br1 hr1 s2 Is2 Gs2 ps2_0 => h_Kv ?_)
  have Zs2 : ∀ i, s2 0 i = s0 0 i := fun i => (Gs2 0 i rfl).trans rfl
  have Fs2 : h_F (fun _ _ => true) s2 s0 := fun _ _ h => by cases h
  have es2_1 : s2 98 11 = s0 98 11 := (Gs2 98 11 rfl).trans rfl
  have es2_3 : s2 98 16 = s0 98 16 := (Gs2 98 16 rfl).trans rfl
  have es2_6 : s2 98 1 = s0 98 1 := (Gs2 98 1 rfl).trans rfl
  have es2_8 : s2 98 2 = s0 98 2 := (Gs2 98 2 rfl).trans rfl
  have es2_10 : s2 99 43 = s0 99 43 := (Gs2 99 43 rfl).trans rfl
  have es2_12 : s2 99 18 = s0 99 18 := (Gs2 99 18 rfl).trans rfl
  have es2_14 : s2 99 25 = s0 99 25 := (Gs2 99 25 rfl).trans rfl
  have es2_16 : s2 110 0 = s0 110 0 := (Gs2 110 0 rfl).trans rfl
  have es2_18 : s2 110 1 = s0 110 1 := (Gs2 110 1 rfl).trans rfl
  refine h_pop (pc' := 263) rfl rfl rfl ?_
  refine h_aload_n (pc' := 264) rfl rfl rfl ?_
  refine h_call (sp := false) (pc' := 267) (M := [(0, .ref 98)]) rfl rfl rfl rfl rfl rfl rfl rfl ?_
  refine ps2_0 (fun r3 br3 hr3 s4 Is4 Gs4 ps4_0 ps4_1 ps4_2 ps4_3 ps4_4 ps4_5 ps4_6 ps4_7 => h_Kv ?_)
  have Zs4 : ∀ i, s4 0 i = s0 0 i := fun i => (Gs4 0 i rfl).trans (Zs2 i)
  have Fs4 : h_F (fun _ _ => true) s4 s0 := fun _ _ h => by cases h
  have es4_0 : s4 64 1 = s2 64 1 := (Gs4 64 1 rfl).trans rfl
  have es4_2 : s4 64 4 = s2 64 4 := (Gs4 64 4 rfl).trans rfl
  have es4_4 : s4 63 2 = s2 63 2 := (Gs4 63 2 rfl).trans rfl
  have es4_5 : s4 10 8 = s2 10 8 := (Gs4 10 8 rfl).trans rfl
  have es4_7 : s4 10 9 = s2 10 9 := (Gs4 10 9 rfl).trans rfl
  have es4_9 : s4 10 10 = s2 10 10 := (Gs4 10 10 rfl).trans rfl
  have es4_11 : s4 13 2 = s2 13 2 := (Gs4 13 2 rfl).trans rfl
  have es4_13 : s4 16 2 = s2 16 2 := (Gs4 16 2 rfl).trans rfl
  have es4_15 : s4 62 0 = s2 62 0 := (Gs4 62 0 rfl).trans rfl
  have es4_17 : s4 62 1 = s2 62 1 := (Gs4 62 1 rfl).trans rfl
  refine h_pop (pc' := 268) rfl rfl rfl ?_
  refine h_goto (pc' := 1441) rfl rfl ?_
  exact kk _ Is4 (by first | exact d_tape.le j0 (Int.le_antisymm (by omega) (by omega)) (by omega) (fun j => (Gs4 65 j rfl).trans ((Gs2 65 j rfl))) (fun j => (Gs4 102 j rfl).trans ((Gs2 102 j rfl))) | (exfalso; omega)) (Int.le_antisymm (by omega) (by omega)) (by rcases ps4_5 with pc | pc; (exact c_R.stay j2 I0 (ps4_7 (by omega)) ((Gs4.mono (B := k_txm) rfl).tr (Gs2.mono (B := k_txm) rfl)) rfl (by omega) (by omega) (by omega) (by omega)); (exact c_R.told (ps4_6 (by omega)) (by omega) (by omega) (by omega) (by omega)))
set_option maxHeartbeats 100000000 in
theorem g_case_271 {ns : Nat} (hns : ns ≤ 320) (s0 : h_S) (I0 : h_I s0) (j0 : d_tape s0 s0) (j1 : s0 64 4 = s0 98 16) (j2 : c_R false s0) (y3 : Int32) (b3 : Int) (hy3 : y3.toInt = b3) (hr : 0 ≤ b3 ∧ b3 + 5 ≤ ns) {Q : Option Value → h_S → Prop} (kk : ∀ τ, h_I τ → (d_tape τ τ) → (τ 64 4 = τ 98 16) → (c_R false τ) → h_T g_P (g_Y ns) 225 1441 [(0, .ref 0), (1, .ref 9), (2, .ref 98), (3, .int y3)] [] τ Q) : h_T g_P (g_Y ns) 225 271 [(0, .ref 0), (1, .ref 9), (2, .ref 98), (3, .int y3)] [] s0 Q := by
  have F0_ : h_F (fun _ _ => true) s0 s0 := h_F.rf
  have j0_ := j0.2
  have i0 := tf_64_1 I0
  have i1 := tf_98_11 I0
  have i2 := tf_64_4 I0
  have i3 := tf_98_16 I0
  have i4 := tf_63_2 I0
  have i5 := tf_10_8 I0
  have i6 := tf_98_1 I0
  have i7 := tf_10_9 I0
  have i8 := tf_98_2 I0
  have i9 := tf_10_10 I0
  have i11 := tf_13_2 I0
  have i13 := tf_16_2 I0
  have j2_ := j2.sz
  have j2i := j2.2.2.1
  have y43 := ty_99_10 I0 43 (by omega)
  have y18 := ty_99_3 I0 18 (by omega)
  have y25 := ty_99_5 I0 25 (by omega)
  have y62_0 := ty_62 I0 0
  have y62_1 := ty_62 I0 1
  have y110_0 := ty_110 I0 0
  have y110_1 := ty_110 I0 1
  refine h_aload_n (pc' := 272) rfl rfl rfl ?_
  refine h_call (sp := false) (pc' := 275) (M := [(0, .ref 9)]) rfl rfl rfl rfl rfl rfl rfl rfl ?_
  refine w_85_9 _ I0  (fun r1 br1 hr1 s2 Is2 Gs2 tr1 => h_Kv ?_)
  have Zs2 : ∀ i, s2 0 i = s0 0 i := fun i => (Gs2 0 i rfl).trans rfl
  have Fs2 : h_F (fun _ _ => true) s2 s0 := fun _ _ h => by cases h
  have es2_0 : s2 64 1 = s0 64 1 := (Gs2 64 1 rfl).trans rfl
  have es2_1 : s2 98 11 = s0 98 11 := (Gs2 98 11 rfl).trans rfl
  have es2_2 : s2 64 4 = s0 64 4 := (Gs2 64 4 rfl).trans rfl
  have es2_3 : s2 98 16 = s0 98 16 := (Gs2 98 16 rfl).trans rfl
  have es2_4 : s2 63 2 = s0 63 2 := (Gs2 63 2 rfl).trans rfl
  have es2_5 : s2 10 8 = s0 10 8 := (Gs2 10 8 rfl).trans rfl
  have es2_6 : s2 98 1 = s0 98 1 := (Gs2 98 1 rfl).trans rfl
  have es2_7 : s2 10 9 = s0 10 9 := (Gs2 10 9 rfl).trans rfl
  have es2_8 : s2 98 2 = s0 98 2 := (Gs2 98 2 rfl).trans rfl
  have es2_9 : s2 10 10 = s0 10 10 := (Gs2 10 10 rfl).trans rfl
  have es2_10 : s2 99 43 = s0 99 43 := (Gs2 99 43 rfl).trans rfl
  have es2_11 : s2 13 2 = s0 13 2 := (Gs2 13 2 rfl).trans rfl
  have es2_12 : s2 99 18 = s0 99 18 := (Gs2 99 18 rfl).trans rfl
  have es2_13 : s2 16 2 = s0 16 2 := (Gs2 16 2 rfl).trans rfl
  have es2_14 : s2 99 25 = s0 99 25 := (Gs2 99 25 rfl).trans rfl
  have es2_15 : s2 62 0 = s0 62 0 := (Gs2 62 0 rfl).trans rfl
  have es2_16 : s2 110 0 = s0 110 0 := (Gs2 110 0 rfl).trans rfl
  have es2_17 : s2 62 1 = s0 62 1 := (Gs2 62 1 rfl).trans rfl
  have es2_18 : s2 110 1 = s0 110 1 := (Gs2 110 1 rfl).trans rfl
  refine h_pop (pc' := 276) rfl rfl rfl ?_
  refine h_aload_n (pc' := 277) rfl rfl rfl ?_
  refine h_call (sp := false) (pc' := 280) (M := [(0, .ref 98)]) rfl rfl rfl rfl rfl rfl rfl rfl ?_
  refine w_156_98 _ Is2  (fun r3 br3 hr3 s4 Is4 Gs4 => h_Kv ?_)
  have Zs4 : ∀ i, s4 0 i = s0 0 i := fun i => (Gs4 0 i rfl).trans (Zs2 i)
  have Fs4 : h_F (fun _ _ => true) s4 s0 := fun _ _ h => by cases h
  have es4_0 : s4 64 1 = s0 64 1 := (Gs4 64 1 rfl).trans es2_0
  have es4_1 : s4 98 11 = s0 98 11 := (Gs4 98 11 rfl).trans es2_1
  have es4_2 : s4 64 4 = s0 64 4 := (Gs4 64 4 rfl).trans es2_2
  have es4_3 : s4 98 16 = s0 98 16 := (Gs4 98 16 rfl).trans es2_3
  have es4_4 : s4 63 2 = s0 63 2 := (Gs4 63 2 rfl).trans es2_4
  have es4_5 : s4 10 8 = s0 10 8 := (Gs4 10 8 rfl).trans es2_5
  have es4_6 : s4 98 1 = s0 98 1 := (Gs4 98 1 rfl).trans es2_6
  have es4_7 : s4 10 9 = s0 10 9 := (Gs4 10 9 rfl).trans es2_7
  have es4_8 : s4 98 2 = s0 98 2 := (Gs4 98 2 rfl).trans es2_8
  have es4_9 : s4 10 10 = s0 10 10 := (Gs4 10 10 rfl).trans es2_9
  have es4_10 : s4 99 43 = s0 99 43 := (Gs4 99 43 rfl).trans es2_10
  have es4_11 : s4 13 2 = s0 13 2 := (Gs4 13 2 rfl).trans es2_11
  have es4_12 : s4 99 18 = s0 99 18 := (Gs4 99 18 rfl).trans es2_12
  have es4_13 : s4 16 2 = s0 16 2 := (Gs4 16 2 rfl).trans es2_13
  have es4_14 : s4 99 25 = s0 99 25 := (Gs4 99 25 rfl).trans es2_14
  have es4_15 : s4 62 0 = s0 62 0 := (Gs4 62 0 rfl).trans es2_15
  have es4_16 : s4 110 0 = s0 110 0 := (Gs4 110 0 rfl).trans es2_16
  have es4_17 : s4 62 1 = s0 62 1 := (Gs4 62 1 rfl).trans es2_17
  have es4_18 : s4 110 1 = s0 110 1 := (Gs4 110 1 rfl).trans es2_18
  clear es2_0 es2_1 es2_10 es2_11 es2_12 es2_13 es2_14 es2_15 es2_16 es2_17 es2_18 es2_2 es2_3 es2_4 es2_5 es2_6 es2_7 es2_8 es2_9
  refine h_pop (pc' := 281) rfl rfl rfl ?_
  refine h_goto (pc' := 1441) rfl rfl ?_
  exact kk _ Is4 (by first | exact d_tape.le j0 (Int.le_antisymm (by omega) (by omega)) (by omega) (fun j => (Gs4 65 j rfl).trans ((Gs2 65 j rfl))) (fun j => (Gs4 102 j rfl).trans ((Gs2 102 j rfl))) | (exfalso; omega)) (Int.le_antisymm (by omega) (by omega)) (c_R.fr (c_R.fr j2 I0 Gs2 rfl) Is2 Gs4 rfl)
set_option maxHeartbeats 100000000 in
theorem g_case_284 {ns : Nat} (hns : ns ≤ 320) (s0 : h_S) (I0 : h_I s0) (j0 : d_tape s0 s0) (j1 : s0 64 4 = s0 98 16) (j2 : c_R false s0) (y3 : Int32) (b3 : Int) (hy3 : y3.toInt = b3) (hr : 0 ≤ b3 ∧ b3 + 5 ≤ ns) {Q : Option Value → h_S → Prop} (kk : ∀ τ, h_I τ → (d_tape τ τ) → (τ 64 4 = τ 98 16) → (c_R false τ) → h_T g_P (g_Y ns) 225 1441 [(0, .ref 0), (1, .ref 9), (2, .ref 98), (3, .int y3)] [] τ Q) : h_T g_P (g_Y ns) 225 284 [(0, .ref 0), (1, .ref 9), (2, .ref 98), (3, .int y3)] [] s0 Q := by
  have F0_ : h_F (fun _ _ => true) s0 s0 := h_F.rf
  have j0_ := j0.2
  have i0 := tf_64_1 I0
  have i1 := tf_98_11 I0
  have i2 := tf_64_4 I0
  have i3 := tf_98_16 I0
  have i4 := tf_63_2 I0
  have i5 := tf_10_8 I0
  have i6 := tf_98_1 I0
  have i7 := tf_10_9 I0
  have i8 := tf_98_2 I0
  have i9 := tf_10_10 I0
  have i11 := tf_13_2 I0
  have i13 := tf_16_2 I0
  have j2_ := j2.sz
  have j2i := j2.2.2.1
  have y43 := ty_99_10 I0 43 (by omega)
  have y18 := ty_99_3 I0 18 (by omega)
  have y25 := ty_99_5 I0 25 (by omega)
  have y62_0 := ty_62 I0 0
  have y62_1 := ty_62 I0 1
  have y110_0 := ty_110 I0 0
  have y110_1 := ty_110 I0 1
  refine h_aload_n (pc' := 285) rfl rfl rfl ?_
  refine h_aload_n (pc' := 286) rfl rfl rfl ?_
  refine h_iload_n (pc' := 287) rfl rfl rfl ?_
  refine h_iconst (pc' := 288) (x := (Int32.ofInt 1)) rfl rfl rfl ?_
  refine h_iadd (pc' := 289) rfl rfl hy3 ci_1 rfl (by omega) (by omega) (fun z1 hz1 => ?_)
  refine h_iald (pc' := 290) (v := s0 0 (b3 + 1)) rfl rfl rfl hz1 (by omega) (by omega) rfl (fun z2 hz2 => ?_)
  have tz2 := h_rgv hz2
  refine h_call (sp := false) (pc' := 293) (M := [(0, .ref 9), (1, .int z2)]) rfl rfl rfl rfl rfl rfl rfl rfl ?_
  refine w_86_9 _ I0 z2 _ hz2 (fun r3 br3 hr3 s4 Is4 Gs4 => h_Kv ?_)
  have Zs4 : ∀ i, s4 0 i = s0 0 i := fun i => (Gs4 0 i rfl).trans rfl
  have Fs4 : h_F (fun _ _ => true) s4 s0 := fun _ _ h => by cases h
  have es4_0 : s4 64 1 = s0 64 1 := (Gs4 64 1 rfl).trans rfl
  have es4_1 : s4 98 11 = s0 98 11 := (Gs4 98 11 rfl).trans rfl
  have es4_2 : s4 64 4 = s0 64 4 := (Gs4 64 4 rfl).trans rfl
  have es4_3 : s4 98 16 = s0 98 16 := (Gs4 98 16 rfl).trans rfl
  have es4_4 : s4 63 2 = s0 63 2 := (Gs4 63 2 rfl).trans rfl
  have es4_5 : s4 10 8 = s0 10 8 := (Gs4 10 8 rfl).trans rfl
  have es4_6 : s4 98 1 = s0 98 1 := (Gs4 98 1 rfl).trans rfl
  have es4_7 : s4 10 9 = s0 10 9 := (Gs4 10 9 rfl).trans rfl
  have es4_8 : s4 98 2 = s0 98 2 := (Gs4 98 2 rfl).trans rfl
  have es4_9 : s4 10 10 = s0 10 10 := (Gs4 10 10 rfl).trans rfl
  have es4_10 : s4 99 43 = s0 99 43 := (Gs4 99 43 rfl).trans rfl
  have es4_11 : s4 13 2 = s0 13 2 := (Gs4 13 2 rfl).trans rfl
  have es4_12 : s4 99 18 = s0 99 18 := (Gs4 99 18 rfl).trans rfl
  have es4_13 : s4 16 2 = s0 16 2 := (Gs4 16 2 rfl).trans rfl
  have es4_14 : s4 99 25 = s0 99 25 := (Gs4 99 25 rfl).trans rfl
  have es4_15 : s4 62 0 = s0 62 0 := (Gs4 62 0 rfl).trans rfl
  have es4_16 : s4 110 0 = s0 110 0 := (Gs4 110 0 rfl).trans rfl
  have es4_17 : s4 62 1 = s0 62 1 := (Gs4 62 1 rfl).trans rfl
  have es4_18 : s4 110 1 = s0 110 1 := (Gs4 110 1 rfl).trans rfl
  refine h_pop (pc' := 294) rfl rfl rfl ?_
  refine h_aload_n (pc' := 295) rfl rfl rfl ?_
  refine h_aload_n (pc' := 296) rfl rfl rfl ?_
  refine h_iload_n (pc' := 297) rfl rfl rfl ?_
  refine h_iconst (pc' := 298) (x := (Int32.ofInt 1)) rfl rfl rfl ?_
  refine h_iadd (pc' := 299) rfl rfl hy3 ci_1 rfl (by omega) (by omega) (fun z5 hz5 => ?_)
  refine h_iald (pc' := 300) (v := s0 0 (b3 + 1)) rfl rfl rfl hz5 (by omega) (by omega) (Zs4 _) (fun z6 hz6 => ?_)
  have tz6 := h_rgv hz6
  refine h_call (sp := false) (pc' := 303) (M := [(0, .ref 98), (1, .int z6)]) rfl rfl rfl rfl rfl rfl rfl rfl ?_
  refine w_160_98 _ Is4 z6 _ hz6 (fun r7 br7 hr7 s8 Is8 Gs8 => h_Kv ?_)
  have Zs8 : ∀ i, s8 0 i = s0 0 i := fun i => (Gs8 0 i rfl).trans (Zs4 i)
  have Fs8 : h_F (fun _ _ => true) s8 s0 := fun _ _ h => by cases h
  have es8_0 : s8 64 1 = s0 64 1 := (Gs8 64 1 rfl).trans es4_0
  have es8_1 : s8 98 11 = s0 98 11 := (Gs8 98 11 rfl).trans es4_1
  have es8_2 : s8 64 4 = s0 64 4 := (Gs8 64 4 rfl).trans es4_2
  have es8_3 : s8 98 16 = s0 98 16 := (Gs8 98 16 rfl).trans es4_3
  have es8_4 : s8 63 2 = s0 63 2 := (Gs8 63 2 rfl).trans es4_4
  have es8_5 : s8 10 8 = s0 10 8 := (Gs8 10 8 rfl).trans es4_5
  have es8_6 : s8 98 1 = s0 98 1 := (Gs8 98 1 rfl).trans es4_6
  have es8_7 : s8 10 9 = s0 10 9 := (Gs8 10 9 rfl).trans es4_7
  have es8_8 : s8 98 2 = s0 98 2 := (Gs8 98 2 rfl).trans es4_8
  have es8_9 : s8 10 10 = s0 10 10 := (Gs8 10 10 rfl).trans es4_9
  have es8_10 : s8 99 43 = s0 99 43 := (Gs8 99 43 rfl).trans es4_10
  have es8_11 : s8 13 2 = s0 13 2 := (Gs8 13 2 rfl).trans es4_11
  have es8_12 : s8 99 18 = s0 99 18 := (Gs8 99 18 rfl).trans es4_12
  have es8_13 : s8 16 2 = s0 16 2 := (Gs8 16 2 rfl).trans es4_13
  have es8_14 : s8 99 25 = s0 99 25 := (Gs8 99 25 rfl).trans es4_14
  have es8_15 : s8 62 0 = s0 62 0 := (Gs8 62 0 rfl).trans es4_15
  have es8_16 : s8 110 0 = s0 110 0 := (Gs8 110 0 rfl).trans es4_16
  have es8_17 : s8 62 1 = s0 62 1 := (Gs8 62 1 rfl).trans es4_17
  have es8_18 : s8 110 1 = s0 110 1 := (Gs8 110 1 rfl).trans es4_18
  clear es4_0 es4_1 es4_10 es4_11 es4_12 es4_13 es4_14 es4_15 es4_16 es4_17 es4_18 es4_2 es4_3 es4_4 es4_5 es4_6 es4_7 es4_8 es4_9
  refine h_pop (pc' := 304) rfl rfl rfl ?_
  refine h_goto (pc' := 1441) rfl rfl ?_
  exact kk _ Is8 (by first | exact d_tape.le j0 (Int.le_antisymm (by omega) (by omega)) (by omega) (fun j => (Gs8 65 j rfl).trans ((Gs4 65 j rfl))) (fun j => (Gs8 102 j rfl).trans ((Gs4 102 j rfl))) | (exfalso; omega)) (Int.le_antisymm (by omega) (by omega)) (c_R.fr (c_R.fr j2 I0 Gs4 rfl) Is4 Gs8 rfl)
set_option maxHeartbeats 100000000 in
theorem g_case_307 {ns : Nat} (hns : ns ≤ 320) (s0 : h_S) (I0 : h_I s0) (j0 : d_tape s0 s0) (j1 : s0 64 4 = s0 98 16) (j2 : c_R false s0) (y3 : Int32) (b3 : Int) (hy3 : y3.toInt = b3) (hr : 0 ≤ b3 ∧ b3 + 5 ≤ ns) {Q : Option Value → h_S → Prop} (kk : ∀ τ, h_I τ → (d_tape τ τ) → (τ 64 4 = τ 98 16) → (c_R false τ) → h_T g_P (g_Y ns) 225 1441 [(0, .ref 0), (1, .ref 9), (2, .ref 98), (3, .int y3)] [] τ Q) : h_T g_P (g_Y ns) 225 307 [(0, .ref 0), (1, .ref 9), (2, .ref 98), (3, .int y3)] [] s0 Q := by
  have F0_ : h_F (fun _ _ => true) s0 s0 := h_F.rf
  have j0_ := j0.2
  have i0 := tf_64_1 I0
  have i1 := tf_98_11 I0
  have i2 := tf_64_4 I0
  have i3 := tf_98_16 I0
  have i4 := tf_63_2 I0
  have i5 := tf_10_8 I0
  have i6 := tf_98_1 I0
  have i7 := tf_10_9 I0
  have i8 := tf_98_2 I0
  have i9 := tf_10_10 I0
  have i11 := tf_13_2 I0
  have i13 := tf_16_2 I0
  have j2_ := j2.sz
  have j2i := j2.2.2.1
  have y43 := ty_99_10 I0 43 (by omega)
  have y18 := ty_99_3 I0 18 (by omega)
  have y25 := ty_99_5 I0 25 (by omega)
  have y62_0 := ty_62 I0 0
  have y62_1 := ty_62 I0 1
  have y110_0 := ty_110 I0 0
  have y110_1 := ty_110 I0 1
  refine h_aload_n (pc' := 308) rfl rfl rfl ?_
  refine h_aload_n (pc' := 309) rfl rfl rfl ?_
  refine h_iload_n (pc' := 310) rfl rfl rfl ?_
  refine h_iconst (pc' := 311) (x := (Int32.ofInt 1)) rfl rfl rfl ?_
  refine h_iadd (pc' := 312) rfl rfl hy3 ci_1 rfl (by omega) (by omega) (fun z1 hz1 => ?_)
  refine h_iald (pc' := 313) (v := s0 0 (b3 + 1)) rfl rfl rfl hz1 (by omega) (by omega) rfl (fun z2 hz2 => ?_)
  have tz2 := h_rgv hz2
  refine h_aload_n (pc' := 314) rfl rfl rfl ?_
  refine h_iload_n (pc' := 315) rfl rfl rfl ?_
  refine h_iconst (pc' := 316) (x := (Int32.ofInt 2)) rfl rfl rfl ?_
  refine h_iadd (pc' := 317) rfl rfl hy3 ci_2 rfl (by omega) (by omega) (fun z3 hz3 => ?_)
  refine h_iald (pc' := 318) (v := s0 0 (b3 + 2)) rfl rfl rfl hz3 (by omega) (by omega) rfl (fun z4 hz4 => ?_)
  have tz4 := h_rgv hz4
  refine h_call (sp := false) (pc' := 321) (M := [(0, .ref 9), (1, .int z2), (2, .int z4)]) rfl rfl rfl rfl rfl rfl rfl rfl ?_
  refine w_87_9 _ I0 z2 _ hz2 z4 _ hz4 (fun r5 br5 hr5 s6 Is6 Gs6 => h_Kv ?_)
  have Zs6 : ∀ i, s6 0 i = s0 0 i := fun i => (Gs6 0 i rfl).trans rfl
  have Fs6 : h_F (fun _ _ => true) s6 s0 := fun _ _ h => by cases h
  have es6_0 : s6 64 1 = s0 64 1 := (Gs6 64 1 rfl).trans rfl
  have es6_1 : s6 98 11 = s0 98 11 := (Gs6 98 11 rfl).trans rfl
  have es6_2 : s6 64 4 = s0 64 4 := (Gs6 64 4 rfl).trans rfl
  have es6_3 : s6 98 16 = s0 98 16 := (Gs6 98 16 rfl).trans rfl
  have es6_4 : s6 63 2 = s0 63 2 := (Gs6 63 2 rfl).trans rfl
  have es6_5 : s6 10 8 = s0 10 8 := (Gs6 10 8 rfl).trans rfl
  have es6_6 : s6 98 1 = s0 98 1 := (Gs6 98 1 rfl).trans rfl
  have es6_7 : s6 10 9 = s0 10 9 := (Gs6 10 9 rfl).trans rfl
  have es6_8 : s6 98 2 = s0 98 2 := (Gs6 98 2 rfl).trans rfl
  have es6_9 : s6 10 10 = s0 10 10 := (Gs6 10 10 rfl).trans rfl
  have es6_10 : s6 99 43 = s0 99 43 := (Gs6 99 43 rfl).trans rfl
  have es6_11 : s6 13 2 = s0 13 2 := (Gs6 13 2 rfl).trans rfl
  have es6_12 : s6 99 18 = s0 99 18 := (Gs6 99 18 rfl).trans rfl
  have es6_13 : s6 16 2 = s0 16 2 := (Gs6 16 2 rfl).trans rfl
  have es6_14 : s6 99 25 = s0 99 25 := (Gs6 99 25 rfl).trans rfl
  have es6_15 : s6 62 0 = s0 62 0 := (Gs6 62 0 rfl).trans rfl
  have es6_16 : s6 110 0 = s0 110 0 := (Gs6 110 0 rfl).trans rfl
  have es6_17 : s6 62 1 = s0 62 1 := (Gs6 62 1 rfl).trans rfl
  have es6_18 : s6 110 1 = s0 110 1 := (Gs6 110 1 rfl).trans rfl
  refine h_pop (pc' := 322) rfl rfl rfl ?_
  refine h_aload_n (pc' := 323) rfl rfl rfl ?_
  refine h_aload_n (pc' := 324) rfl rfl rfl ?_
  refine h_iload_n (pc' := 325) rfl rfl rfl ?_
  refine h_iconst (pc' := 326) (x := (Int32.ofInt 1)) rfl rfl rfl ?_
  refine h_iadd (pc' := 327) rfl rfl hy3 ci_1 rfl (by omega) (by omega) (fun z7 hz7 => ?_)
  refine h_iald (pc' := 328) (v := s0 0 (b3 + 1)) rfl rfl rfl hz7 (by omega) (by omega) (Zs6 _) (fun z8 hz8 => ?_)
  have tz8 := h_rgv hz8
  refine h_aload_n (pc' := 329) rfl rfl rfl ?_
  refine h_iload_n (pc' := 330) rfl rfl rfl ?_
  refine h_iconst (pc' := 331) (x := (Int32.ofInt 2)) rfl rfl rfl ?_
  refine h_iadd (pc' := 332) rfl rfl hy3 ci_2 rfl (by omega) (by omega) (fun z9 hz9 => ?_)
  refine h_iald (pc' := 333) (v := s0 0 (b3 + 2)) rfl rfl rfl hz9 (by omega) (by omega) (Zs6 _) (fun z10 hz10 => ?_)
  have tz10 := h_rgv hz10
  refine h_call (sp := false) (pc' := 336) (M := [(0, .ref 98), (1, .int z8), (2, .int z10)]) rfl rfl rfl rfl rfl rfl rfl rfl ?_
  refine w_168_98 _ Is6 z8 _ hz8 z10 _ hz10 (fun r11 br11 hr11 s12 Is12 Gs12 => h_Kv ?_)
  have Zs12 : ∀ i, s12 0 i = s0 0 i := fun i => (Gs12 0 i rfl).trans (Zs6 i)
  have Fs12 : h_F (fun _ _ => true) s12 s0 := fun _ _ h => by cases h
  have es12_0 : s12 64 1 = s0 64 1 := (Gs12 64 1 rfl).trans es6_0
  have es12_1 : s12 98 11 = s0 98 11 := (Gs12 98 11 rfl).trans es6_1
  have es12_2 : s12 64 4 = s0 64 4 := (Gs12 64 4 rfl).trans es6_2
  have es12_3 : s12 98 16 = s0 98 16 := (Gs12 98 16 rfl).trans es6_3
  have es12_4 : s12 63 2 = s0 63 2 := (Gs12 63 2 rfl).trans es6_4
  have es12_5 : s12 10 8 = s0 10 8 := (Gs12 10 8 rfl).trans es6_5
  have es12_6 : s12 98 1 = s0 98 1 := (Gs12 98 1 rfl).trans es6_6
  have es12_7 : s12 10 9 = s0 10 9 := (Gs12 10 9 rfl).trans es6_7
  have es12_8 : s12 98 2 = s0 98 2 := (Gs12 98 2 rfl).trans es6_8
  have es12_9 : s12 10 10 = s0 10 10 := (Gs12 10 10 rfl).trans es6_9
  have es12_10 : s12 99 43 = s0 99 43 := (Gs12 99 43 rfl).trans es6_10
  have es12_11 : s12 13 2 = s0 13 2 := (Gs12 13 2 rfl).trans es6_11
  have es12_12 : s12 99 18 = s0 99 18 := (Gs12 99 18 rfl).trans es6_12
  have es12_13 : s12 16 2 = s0 16 2 := (Gs12 16 2 rfl).trans es6_13
  have es12_14 : s12 99 25 = s0 99 25 := (Gs12 99 25 rfl).trans es6_14
  have es12_15 : s12 62 0 = s0 62 0 := (Gs12 62 0 rfl).trans es6_15
  have es12_16 : s12 110 0 = s0 110 0 := (Gs12 110 0 rfl).trans es6_16
  have es12_17 : s12 62 1 = s0 62 1 := (Gs12 62 1 rfl).trans es6_17
  have es12_18 : s12 110 1 = s0 110 1 := (Gs12 110 1 rfl).trans es6_18
  clear es6_0 es6_1 es6_10 es6_11 es6_12 es6_13 es6_14 es6_15 es6_16 es6_17 es6_18 es6_2 es6_3 es6_4 es6_5 es6_6 es6_7 es6_8 es6_9
  refine h_pop (pc' := 337) rfl rfl rfl ?_
  refine h_goto (pc' := 1441) rfl rfl ?_
  exact kk _ Is12 (by first | exact d_tape.le j0 (Int.le_antisymm (by omega) (by omega)) (by omega) (fun j => (Gs12 65 j rfl).trans ((Gs6 65 j rfl))) (fun j => (Gs12 102 j rfl).trans ((Gs6 102 j rfl))) | (exfalso; omega)) (Int.le_antisymm (by omega) (by omega)) (c_R.fr (c_R.fr j2 I0 Gs6 rfl) Is6 Gs12 rfl)
set_option maxHeartbeats 100000000 in
theorem g_case_340 {ns : Nat} (hns : ns ≤ 320) (s0 : h_S) (I0 : h_I s0) (j0 : d_tape s0 s0) (j1 : s0 64 4 = s0 98 16) (j2 : c_R false s0) (y3 : Int32) (b3 : Int) (hy3 : y3.toInt = b3) (hr : 0 ≤ b3 ∧ b3 + 5 ≤ ns) {Q : Option Value → h_S → Prop} (kk : ∀ τ, h_I τ → (d_tape τ τ) → (τ 64 4 = τ 98 16) → (c_R false τ) → h_T g_P (g_Y ns) 225 1441 [(0, .ref 0), (1, .ref 9), (2, .ref 98), (3, .int y3)] [] τ Q) : h_T g_P (g_Y ns) 225 340 [(0, .ref 0), (1, .ref 9), (2, .ref 98), (3, .int y3)] [] s0 Q := by
  have F0_ : h_F (fun _ _ => true) s0 s0 := h_F.rf
  have j0_ := j0.2
  have i0 := tf_64_1 I0
  have i1 := tf_98_11 I0
  have i2 := tf_64_4 I0
  have i3 := tf_98_16 I0
  have i4 := tf_63_2 I0
  have i5 := tf_10_8 I0
  have i6 := tf_98_1 I0
  have i7 := tf_10_9 I0
  have i8 := tf_98_2 I0
  have i9 := tf_10_10 I0
  have i11 := tf_13_2 I0
  have i13 := tf_16_2 I0
  have j2_ := j2.sz
  have j2i := j2.2.2.1
  have y43 := ty_99_10 I0 43 (by omega)
  have y18 := ty_99_3 I0 18 (by omega)
  have y25 := ty_99_5 I0 25 (by omega)
  have y62_0 := ty_62 I0 0
  have y62_1 := ty_62 I0 1
  have y110_0 := ty_110 I0 0
  have y110_1 := ty_110 I0 1
  refine h_aload_n (pc' := 341) rfl rfl rfl ?_
  refine h_aload_n (pc' := 342) rfl rfl rfl ?_
  refine h_iload_n (pc' := 343) rfl rfl rfl ?_
  refine h_iconst (pc' := 344) (x := (Int32.ofInt 1)) rfl rfl rfl ?_
  refine h_iadd (pc' := 345) rfl rfl hy3 ci_1 rfl (by omega) (by omega) (fun z1 hz1 => ?_)
  refine h_iald (pc' := 346) (v := s0 0 (b3 + 1)) rfl rfl rfl hz1 (by omega) (by omega) rfl (fun z2 hz2 => ?_)
  have tz2 := h_rgv hz2
  refine h_aload_n (pc' := 347) rfl rfl rfl ?_
  refine h_iload_n (pc' := 348) rfl rfl rfl ?_
  refine h_iconst (pc' := 349) (x := (Int32.ofInt 2)) rfl rfl rfl ?_
  refine h_iadd (pc' := 350) rfl rfl hy3 ci_2 rfl (by omega) (by omega) (fun z3 hz3 => ?_)
  refine h_iald (pc' := 351) (v := s0 0 (b3 + 2)) rfl rfl rfl hz3 (by omega) (by omega) rfl (fun z4 hz4 => ?_)
  have tz4 := h_rgv hz4
  refine h_call (sp := false) (pc' := 354) (M := [(0, .ref 9), (1, .int z2), (2, .int z4)]) rfl rfl rfl rfl rfl rfl rfl rfl ?_
  refine w_88_9 _ I0 z2 _ hz2 z4 _ hz4 (fun r5 br5 hr5 s6 Is6 Gs6 => h_Kv ?_)
  have Zs6 : ∀ i, s6 0 i = s0 0 i := fun i => (Gs6 0 i rfl).trans rfl
  have Fs6 : h_F (fun _ _ => true) s6 s0 := fun _ _ h => by cases h
  have es6_0 : s6 64 1 = s0 64 1 := (Gs6 64 1 rfl).trans rfl
  have es6_1 : s6 98 11 = s0 98 11 := (Gs6 98 11 rfl).trans rfl
  have es6_2 : s6 64 4 = s0 64 4 := (Gs6 64 4 rfl).trans rfl
  have es6_3 : s6 98 16 = s0 98 16 := (Gs6 98 16 rfl).trans rfl
  have es6_4 : s6 63 2 = s0 63 2 := (Gs6 63 2 rfl).trans rfl
  have es6_5 : s6 10 8 = s0 10 8 := (Gs6 10 8 rfl).trans rfl
  have es6_6 : s6 98 1 = s0 98 1 := (Gs6 98 1 rfl).trans rfl
  have es6_7 : s6 10 9 = s0 10 9 := (Gs6 10 9 rfl).trans rfl
  have es6_8 : s6 98 2 = s0 98 2 := (Gs6 98 2 rfl).trans rfl
  have es6_9 : s6 10 10 = s0 10 10 := (Gs6 10 10 rfl).trans rfl
  have es6_10 : s6 99 43 = s0 99 43 := (Gs6 99 43 rfl).trans rfl
  have es6_11 : s6 13 2 = s0 13 2 := (Gs6 13 2 rfl).trans rfl
  have es6_12 : s6 99 18 = s0 99 18 := (Gs6 99 18 rfl).trans rfl
  have es6_13 : s6 16 2 = s0 16 2 := (Gs6 16 2 rfl).trans rfl
  have es6_14 : s6 99 25 = s0 99 25 := (Gs6 99 25 rfl).trans rfl
  have es6_15 : s6 62 0 = s0 62 0 := (Gs6 62 0 rfl).trans rfl
  have es6_16 : s6 110 0 = s0 110 0 := (Gs6 110 0 rfl).trans rfl
  have es6_17 : s6 62 1 = s0 62 1 := (Gs6 62 1 rfl).trans rfl
  have es6_18 : s6 110 1 = s0 110 1 := (Gs6 110 1 rfl).trans rfl
  refine h_pop (pc' := 355) rfl rfl rfl ?_
  refine h_aload_n (pc' := 356) rfl rfl rfl ?_
  refine h_aload_n (pc' := 357) rfl rfl rfl ?_
  refine h_iload_n (pc' := 358) rfl rfl rfl ?_
  refine h_iconst (pc' := 359) (x := (Int32.ofInt 1)) rfl rfl rfl ?_
  refine h_iadd (pc' := 360) rfl rfl hy3 ci_1 rfl (by omega) (by omega) (fun z7 hz7 => ?_)
  refine h_iald (pc' := 361) (v := s0 0 (b3 + 1)) rfl rfl rfl hz7 (by omega) (by omega) (Zs6 _) (fun z8 hz8 => ?_)
  have tz8 := h_rgv hz8
  refine h_aload_n (pc' := 362) rfl rfl rfl ?_
  refine h_iload_n (pc' := 363) rfl rfl rfl ?_
  refine h_iconst (pc' := 364) (x := (Int32.ofInt 2)) rfl rfl rfl ?_
  refine h_iadd (pc' := 365) rfl rfl hy3 ci_2 rfl (by omega) (by omega) (fun z9 hz9 => ?_)
  refine h_iald (pc' := 366) (v := s0 0 (b3 + 2)) rfl rfl rfl hz9 (by omega) (by omega) (Zs6 _) (fun z10 hz10 => ?_)
  have tz10 := h_rgv hz10
  refine h_call (sp := false) (pc' := 369) (M := [(0, .ref 98), (1, .int z8), (2, .int z10)]) rfl rfl rfl rfl rfl rfl rfl rfl ?_
  refine w_170_98 _ Is6 z8 _ hz8 z10 _ hz10 (fun r11 br11 hr11 s12 Is12 Gs12 => h_Kv ?_)
  have Zs12 : ∀ i, s12 0 i = s0 0 i := fun i => (Gs12 0 i rfl).trans (Zs6 i)
  have Fs12 : h_F (fun _ _ => true) s12 s0 := fun _ _ h => by cases h
  have es12_0 : s12 64 1 = s0 64 1 := (Gs12 64 1 rfl).trans es6_0
  have es12_1 : s12 98 11 = s0 98 11 := (Gs12 98 11 rfl).trans es6_1
  have es12_2 : s12 64 4 = s0 64 4 := (Gs12 64 4 rfl).trans es6_2
  have es12_3 : s12 98 16 = s0 98 16 := (Gs12 98 16 rfl).trans es6_3
  have es12_4 : s12 63 2 = s0 63 2 := (Gs12 63 2 rfl).trans es6_4
  have es12_5 : s12 10 8 = s0 10 8 := (Gs12 10 8 rfl).trans es6_5
  have es12_6 : s12 98 1 = s0 98 1 := (Gs12 98 1 rfl).trans es6_6
  have es12_7 : s12 10 9 = s0 10 9 := (Gs12 10 9 rfl).trans es6_7
  have es12_8 : s12 98 2 = s0 98 2 := (Gs12 98 2 rfl).trans es6_8
  have es12_9 : s12 10 10 = s0 10 10 := (Gs12 10 10 rfl).trans es6_9
  have es12_10 : s12 99 43 = s0 99 43 := (Gs12 99 43 rfl).trans es6_10
  have es12_11 : s12 13 2 = s0 13 2 := (Gs12 13 2 rfl).trans es6_11
  have es12_12 : s12 99 18 = s0 99 18 := (Gs12 99 18 rfl).trans es6_12
  have es12_13 : s12 16 2 = s0 16 2 := (Gs12 16 2 rfl).trans es6_13
  have es12_14 : s12 99 25 = s0 99 25 := (Gs12 99 25 rfl).trans es6_14
  have es12_15 : s12 62 0 = s0 62 0 := (Gs12 62 0 rfl).trans es6_15
  have es12_16 : s12 110 0 = s0 110 0 := (Gs12 110 0 rfl).trans es6_16
  have es12_17 : s12 62 1 = s0 62 1 := (Gs12 62 1 rfl).trans es6_17
  have es12_18 : s12 110 1 = s0 110 1 := (Gs12 110 1 rfl).trans es6_18
  clear es6_0 es6_1 es6_10 es6_11 es6_12 es6_13 es6_14 es6_15 es6_16 es6_17 es6_18 es6_2 es6_3 es6_4 es6_5 es6_6 es6_7 es6_8 es6_9
  refine h_pop (pc' := 370) rfl rfl rfl ?_
  refine h_goto (pc' := 1441) rfl rfl ?_
  exact kk _ Is12 (by first | exact d_tape.le j0 (Int.le_antisymm (by omega) (by omega)) (by omega) (fun j => (Gs12 65 j rfl).trans ((Gs6 65 j rfl))) (fun j => (Gs12 102 j rfl).trans ((Gs6 102 j rfl))) | (exfalso; omega)) (Int.le_antisymm (by omega) (by omega)) (c_R.fr (c_R.fr j2 I0 Gs6 rfl) Is6 Gs12 rfl)
set_option maxHeartbeats 100000000 in
theorem g_case_373 {ns : Nat} (hns : ns ≤ 320) (s0 : h_S) (I0 : h_I s0) (j0 : d_tape s0 s0) (j1 : s0 64 4 = s0 98 16) (j2 : c_R false s0) (y3 : Int32) (b3 : Int) (hy3 : y3.toInt = b3) (hr : 0 ≤ b3 ∧ b3 + 5 ≤ ns) {Q : Option Value → h_S → Prop} (kk : ∀ τ, h_I τ → (d_tape τ τ) → (τ 64 4 = τ 98 16) → (c_R false τ) → h_T g_P (g_Y ns) 225 1441 [(0, .ref 0), (1, .ref 9), (2, .ref 98), (3, .int y3)] [] τ Q) : h_T g_P (g_Y ns) 225 373 [(0, .ref 0), (1, .ref 9), (2, .ref 98), (3, .int y3)] [] s0 Q := by
  have F0_ : h_F (fun _ _ => true) s0 s0 := h_F.rf
  have j0_ := j0.2
  have i0 := tf_64_1 I0
  have i1 := tf_98_11 I0
  have i2 := tf_64_4 I0
  have i3 := tf_98_16 I0
  have i4 := tf_63_2 I0
  have i5 := tf_10_8 I0
  have i6 := tf_98_1 I0
  have i7 := tf_10_9 I0
  have i8 := tf_98_2 I0
  have i9 := tf_10_10 I0
  have i11 := tf_13_2 I0
  have i13 := tf_16_2 I0
  have j2_ := j2.sz
  have j2i := j2.2.2.1
  have y43 := ty_99_10 I0 43 (by omega)
  have y18 := ty_99_3 I0 18 (by omega)
  have y25 := ty_99_5 I0 25 (by omega)
  have y62_0 := ty_62 I0 0
  have y62_1 := ty_62 I0 1
  have y110_0 := ty_110 I0 0
  have y110_1 := ty_110 I0 1
  refine h_aload_n (pc' := 374) rfl rfl rfl ?_
  refine h_aload_n (pc' := 375) rfl rfl rfl ?_
  refine h_iload_n (pc' := 376) rfl rfl rfl ?_
  refine h_iconst (pc' := 377) (x := (Int32.ofInt 1)) rfl rfl rfl ?_
  refine h_iadd (pc' := 378) rfl rfl hy3 ci_1 rfl (by omega) (by omega) (fun z1 hz1 => ?_)
  refine h_iald (pc' := 379) (v := s0 0 (b3 + 1)) rfl rfl rfl hz1 (by omega) (by omega) rfl (fun z2 hz2 => ?_)
  have tz2 := h_rgv hz2
  refine h_aload_n (pc' := 380) rfl rfl rfl ?_
  refine h_iload_n (pc' := 381) rfl rfl rfl ?_
  refine h_iconst (pc' := 382) (x := (Int32.ofInt 2)) rfl rfl rfl ?_
  refine h_iadd (pc' := 383) rfl rfl hy3 ci_2 rfl (by omega) (by omega) (fun z3 hz3 => ?_)
  refine h_iald (pc' := 384) (v := s0 0 (b3 + 2)) rfl rfl rfl hz3 (by omega) (by omega) rfl (fun z4 hz4 => ?_)
  have tz4 := h_rgv hz4
  refine h_call (sp := false) (pc' := 387) (M := [(0, .ref 9), (1, .int z2), (2, .int z4)]) rfl rfl rfl rfl rfl rfl rfl rfl ?_
  refine h_iload_n (pc' := 1) rfl rfl rfl ?_
  refine h_calls (pc' := 4) (M := [(0, .int z2)]) rfl rfl rfl rfl rfl rfl ?_
  refine h_iload_n (pc' := 1) rfl rfl rfl ?_
  refine h_zeq (tg := 9) (pc' := 4) rfl rfl rfl hz2 (fun c5 => ?_) (fun c5 => ?_)
  · refine h_iconst (pc' := 10) (x := (Int32.ofInt 1)) rfl rfl rfl ?_
    refine h_goto (pc' := 14) rfl rfl ?_
    refine h_zret rfl rfl ci_1 (by omega) (h_Kv ?_)
    refine h_zne (tg := 9) (pc' := 7) rfl rfl rfl ci_1 (fun c6 => ?_) (fun c6 => absurd c6 (by omega))
    refine h_aload_n (pc' := 10) rfl rfl rfl ?_
    refine h_getR (pc' := 13) rfl rfl rfl rfl rfl ?_
    refine h_iload_n (pc' := 14) rfl rfl rfl ?_
    refine h_call (sp := false) (pc' := 17) (M := [(0, .ref 10), (1, .int z2)]) rfl rfl rfl rfl rfl rfl rfl rfl ?_
    refine h_iload_n (pc' := 1) rfl rfl rfl ?_
    refine h_zne (tg := 11) (pc' := 4) rfl rfl rfl hz2 (fun c7 => absurd (Int.le_antisymm (by omega) (by omega)) c7) (fun c7 => ?_)
    refine h_aload_n (pc' := 5) rfl rfl rfl ?_
    refine h_getR (pc' := 8) rfl rfl rfl rfl rfl ?_
    refine h_goto (pc' := 15) rfl rfl ?_
    refine h_aret rfl rfl (h_Kv ?_)
    refine h_astore_n (pc' := 18) (M := [(3, .ref 13), (0, .ref 9), (1, .int z2), (2, .int z4)]) rfl rfl rfl rfl ?_
    refine h_aload_n (pc' := 19) rfl rfl rfl ?_
    refine h_iload_n (pc' := 20) rfl rfl rfl ?_
    refine h_call (sp := false) (pc' := 23) (M := [(0, .ref 13), (1, .int z4)]) rfl rfl rfl rfl rfl rfl rfl rfl ?_
    refine h_iload_n (pc' := 1) rfl rfl rfl ?_
    refine h_zlt (tg := 16) (pc' := 4) rfl rfl rfl hz4 (fun c8 => ?_) (fun c8 => ?_)
    · refine h_iconst (pc' := 17) (x := (Int32.ofInt 0)) rfl rfl rfl ?_
      refine h_zret rfl rfl ci_0 (by omega) (h_Kv ?_)
      refine h_zeq (tg := 45) (pc' := 26) rfl rfl rfl ci_0 (fun c9 => ?_) (fun c9 => absurd (Int.le_antisymm (by omega) (by omega)) c9)
      refine h_iconst (pc' := 46) (x := (Int32.ofInt (-1))) rfl rfl rfl ?_
      refine h_iret rfl rfl (h_Kv ?_)
      refine h_aload_n (pc' := 388) rfl rfl rfl ?_
      refine h_aload_n (pc' := 389) rfl rfl rfl ?_
      refine h_iload_n (pc' := 390) rfl rfl rfl ?_
      refine h_iconst (pc' := 391) (x := (Int32.ofInt 1)) rfl rfl rfl ?_
      refine h_iadd (pc' := 392) rfl rfl hy3 ci_1 rfl (by omega) (by omega) (fun z10 hz10 => ?_)
      refine h_iald (pc' := 393) (v := s0 0 (b3 + 1)) rfl rfl rfl hz10 (by omega) (by omega) rfl (fun z11 hz11 => ?_)
      have tz11 := h_rgv hz11
      refine h_aload_n (pc' := 394) rfl rfl rfl ?_
      refine h_iload_n (pc' := 395) rfl rfl rfl ?_
      refine h_iconst (pc' := 396) (x := (Int32.ofInt 2)) rfl rfl rfl ?_
      refine h_iadd (pc' := 397) rfl rfl hy3 ci_2 rfl (by omega) (by omega) (fun z12 hz12 => ?_)
      refine h_iald (pc' := 398) (v := s0 0 (b3 + 2)) rfl rfl rfl hz12 (by omega) (by omega) rfl (fun z13 hz13 => ?_)
      have tz13 := h_rgv hz13
      refine h_call (sp := false) (pc' := 401) (M := [(0, .ref 98), (1, .int z11), (2, .int z13)]) rfl rfl rfl rfl rfl rfl rfl rfl ?_
      refine h_aload_n (pc' := 1) rfl rfl rfl ?_
      refine h_iload_n (pc' := 2) rfl rfl rfl ?_
      refine h_iload_n (pc' := 3) rfl rfl rfl ?_
      refine h_call (sp := false) (pc' := 6) (M := [(0, .ref 98), (1, .int z11), (2, .int z13)]) rfl rfl rfl rfl rfl rfl rfl rfl ?_
      refine h_iload_n (pc' := 1) rfl rfl rfl ?_
      refine h_i2l (pc' := 2) rfl rfl hz11 (fun z14 hz14 => ?_)
      refine h_lconst (pc' := 3) (x := (Int64.ofInt 0)) rfl rfl rfl ?_
      refine h_lconst (pc' := 4) (x := (Int64.ofInt 1)) rfl rfl rfl ?_
      refine h_calls (pc' := 7) (M := [(0, .long z14), (2, .long (Int64.ofInt 0)), (4, .long (Int64.ofInt 1))]) rfl rfl rfl rfl rfl rfl ?_
      refine h_lload_n (pc' := 1) rfl rfl rfl ?_
      refine h_lload_n (pc' := 2) rfl rfl rfl ?_
      refine h_lcmp (pc' := 3) rfl rfl hz14 cl_0 (fun z15 hz15 => ?_)
      refine h_zlt (tg := 17) (pc' := 6) rfl rfl rfl rfl (fun c16 => absurd c16 (by omega)) (fun c16 => ?_)
      replace c16 := (h_lcr hz15).2.1 c16
      clear hz15
      refine h_lload_n (pc' := 7) rfl rfl rfl ?_
      refine h_lload (pc' := 9) rfl rfl rfl ?_
      refine h_lcmp (pc' := 10) rfl rfl hz14 cl_1 (fun z17 hz17 => ?_)
      refine h_zgt (tg := 17) (pc' := 13) rfl rfl rfl rfl (fun c18 => absurd c18 (by omega)) (fun c18 => ?_)
      replace c18 := (h_lcr hz17).2.2.1 c18
      clear hz17
      refine h_iconst (pc' := 14) (x := (Int32.ofInt 1)) rfl rfl rfl ?_
      refine h_goto (pc' := 18) rfl rfl ?_
      refine h_zret rfl rfl ci_1 (by omega) (h_Kv ?_)
      refine h_zeq (tg := 38) (pc' := 10) rfl rfl rfl ci_1 (fun c19 => absurd c19 (by omega)) (fun c19 => ?_)
      refine h_iload_n (pc' := 11) rfl rfl rfl ?_
      refine h_i2l (pc' := 12) rfl rfl hz13 (fun z20 hz20 => ?_)
      refine h_lconst (pc' := 13) (x := (Int64.ofInt 0)) rfl rfl rfl ?_
      refine h_aload_n (pc' := 14) rfl rfl rfl ?_
      refine h_getR (pc' := 17) rfl rfl rfl rfl rfl ?_
      refine h_iload_n (pc' := 18) rfl rfl rfl ?_
      refine h_calls (pc' := 21) (M := [(0, .int z11)]) rfl rfl rfl rfl rfl rfl ?_
      refine h_iload_n (pc' := 1) rfl rfl rfl ?_
      refine h_zne (tg := 9) (pc' := 4) rfl rfl rfl hz11 (fun c21 => absurd (Int.le_antisymm (by omega) (by omega)) c21) (fun c21 => ?_)
      refine h_bipush (pc' := 6) (x := (Int32.ofInt 12)) rfl rfl cb_12 ?_
      refine h_goto (pc' := 11) rfl rfl ?_
      refine h_iret rfl rfl (h_Kv ?_)
      refine h_bipush (pc' := 23) (x := (Int32.ofInt 6)) rfl rfl cb_6 ?_
      refine h_iadd (pc' := 24) (c := 18) rfl rfl ci_12 ci_6 rfl (by omega) (by omega) (fun z22 hz22 => ?_)
      refine h_iald (pc' := 25) (v := s0 99 18) rfl rfl rfl hz22 (by omega) (by omega) rfl (fun z23 hz23 => ?_)
      have tz23 := ty_99_3 I0 18 (by omega)
      refine h_iconst (pc' := 26) (x := (Int32.ofInt 1)) rfl rfl rfl ?_
      refine h_isub (pc' := 27) rfl rfl hz23 ci_1 rfl (by omega) (by omega) (fun z24 hz24 => ?_)
      refine h_i2l (pc' := 28) rfl rfl hz24 (fun z25 hz25 => ?_)
      refine h_calls (pc' := 31) (M := [(0, .long z20), (2, .long (Int64.ofInt 0)), (4, .long z25)]) rfl rfl rfl rfl rfl rfl ?_
      refine h_lload_n (pc' := 1) rfl rfl rfl ?_
      refine h_lload_n (pc' := 2) rfl rfl rfl ?_
      refine h_lcmp (pc' := 3) rfl rfl hz20 cl_0 (fun z26 hz26 => ?_)
      refine h_zlt (tg := 17) (pc' := 6) rfl rfl rfl rfl (fun c27 => ?_) (fun c27 => absurd c27 (by omega))
      replace c27 := (h_lcr hz26).1 c27
      clear hz26
      refine h_iconst (pc' := 18) (x := (Int32.ofInt 0)) rfl rfl rfl ?_
      refine h_zret rfl rfl ci_0 (by omega) (h_Kv ?_)
      refine h_zeq (tg := 38) (pc' := 34) rfl rfl rfl ci_0 (fun c28 => ?_) (fun c28 => absurd (Int.le_antisymm (by omega) (by omega)) c28)
      refine h_iconst (pc' := 39) (x := (Int32.ofInt 0)) rfl rfl rfl ?_
      refine h_zret rfl rfl ci_0 (by omega) (h_Kv ?_)
      refine h_zeq (tg := 44) (pc' := 9) rfl rfl rfl ci_0 (fun c29 => ?_) (fun c29 => absurd (Int.le_antisymm (by omega) (by omega)) c29)
      refine h_iconst (pc' := 45) (x := (Int32.ofInt (-1))) rfl rfl rfl ?_
      refine h_iret rfl rfl (h_Kv ?_)
      refine h_ceq (tg := 1441) (pc' := 404) rfl rfl rfl ci_m1 ci_m1 (fun c30 => ?_) (fun c30 => absurd (Int.le_antisymm (by omega) (by omega)) c30)
      exact kk _ I0 (by first | exact d_tape.le j0 (Int.le_antisymm (by omega) (by omega)) (by omega) (fun j => rfl) (fun j => rfl) | (exfalso; omega)) (Int.le_antisymm (by omega) (by omega)) j2
    · refine h_iload_n (pc' := 5) rfl rfl rfl ?_
      refine h_aload_n (pc' := 6) rfl rfl rfl ?_
      refine h_getI (pc' := 9) (v := s0 13 2) rfl rfl rfl rfl rfl rfl (fun z31 hz31 => ?_)
      have tz31 := tf_13_2 I0
      refine h_cge (tg := 16) (pc' := 12) rfl rfl rfl hz4 hz31 (fun c32 => ?_) (fun c32 => ?_)
      · refine h_iconst (pc' := 17) (x := (Int32.ofInt 0)) rfl rfl rfl ?_
        refine h_zret rfl rfl ci_0 (by omega) (h_Kv ?_)
        refine h_zeq (tg := 45) (pc' := 26) rfl rfl rfl ci_0 (fun c33 => ?_) (fun c33 => absurd (Int.le_antisymm (by omega) (by omega)) c33)
        refine h_iconst (pc' := 46) (x := (Int32.ofInt (-1))) rfl rfl rfl ?_
        refine h_iret rfl rfl (h_Kv ?_)
        refine h_aload_n (pc' := 388) rfl rfl rfl ?_
        refine h_aload_n (pc' := 389) rfl rfl rfl ?_
        refine h_iload_n (pc' := 390) rfl rfl rfl ?_
        refine h_iconst (pc' := 391) (x := (Int32.ofInt 1)) rfl rfl rfl ?_
        refine h_iadd (pc' := 392) rfl rfl hy3 ci_1 rfl (by omega) (by omega) (fun z34 hz34 => ?_)
        refine h_iald (pc' := 393) (v := s0 0 (b3 + 1)) rfl rfl rfl hz34 (by omega) (by omega) rfl (fun z35 hz35 => ?_)
        have tz35 := h_rgv hz35
        refine h_aload_n (pc' := 394) rfl rfl rfl ?_
        refine h_iload_n (pc' := 395) rfl rfl rfl ?_
        refine h_iconst (pc' := 396) (x := (Int32.ofInt 2)) rfl rfl rfl ?_
        refine h_iadd (pc' := 397) rfl rfl hy3 ci_2 rfl (by omega) (by omega) (fun z36 hz36 => ?_)
        refine h_iald (pc' := 398) (v := s0 0 (b3 + 2)) rfl rfl rfl hz36 (by omega) (by omega) rfl (fun z37 hz37 => ?_)
        have tz37 := h_rgv hz37
        refine h_call (sp := false) (pc' := 401) (M := [(0, .ref 98), (1, .int z35), (2, .int z37)]) rfl rfl rfl rfl rfl rfl rfl rfl ?_
        refine h_aload_n (pc' := 1) rfl rfl rfl ?_
        refine h_iload_n (pc' := 2) rfl rfl rfl ?_
        refine h_iload_n (pc' := 3) rfl rfl rfl ?_
        refine h_call (sp := false) (pc' := 6) (M := [(0, .ref 98), (1, .int z35), (2, .int z37)]) rfl rfl rfl rfl rfl rfl rfl rfl ?_
        refine h_iload_n (pc' := 1) rfl rfl rfl ?_
        refine h_i2l (pc' := 2) rfl rfl hz35 (fun z38 hz38 => ?_)
        refine h_lconst (pc' := 3) (x := (Int64.ofInt 0)) rfl rfl rfl ?_
        refine h_lconst (pc' := 4) (x := (Int64.ofInt 1)) rfl rfl rfl ?_
        refine h_calls (pc' := 7) (M := [(0, .long z38), (2, .long (Int64.ofInt 0)), (4, .long (Int64.ofInt 1))]) rfl rfl rfl rfl rfl rfl ?_
        refine h_lload_n (pc' := 1) rfl rfl rfl ?_
        refine h_lload_n (pc' := 2) rfl rfl rfl ?_
        refine h_lcmp (pc' := 3) rfl rfl hz38 cl_0 (fun z39 hz39 => ?_)
        refine h_zlt (tg := 17) (pc' := 6) rfl rfl rfl rfl (fun c40 => absurd c40 (by omega)) (fun c40 => ?_)
        replace c40 := (h_lcr hz39).2.1 c40
        clear hz39
        refine h_lload_n (pc' := 7) rfl rfl rfl ?_
        refine h_lload (pc' := 9) rfl rfl rfl ?_
        refine h_lcmp (pc' := 10) rfl rfl hz38 cl_1 (fun z41 hz41 => ?_)
        refine h_zgt (tg := 17) (pc' := 13) rfl rfl rfl rfl (fun c42 => absurd c42 (by omega)) (fun c42 => ?_)
        replace c42 := (h_lcr hz41).2.2.1 c42
        clear hz41
        refine h_iconst (pc' := 14) (x := (Int32.ofInt 1)) rfl rfl rfl ?_
        refine h_goto (pc' := 18) rfl rfl ?_
        refine h_zret rfl rfl ci_1 (by omega) (h_Kv ?_)
        refine h_zeq (tg := 38) (pc' := 10) rfl rfl rfl ci_1 (fun c43 => absurd c43 (by omega)) (fun c43 => ?_)
        refine h_iload_n (pc' := 11) rfl rfl rfl ?_
        refine h_i2l (pc' := 12) rfl rfl hz37 (fun z44 hz44 => ?_)
        refine h_lconst (pc' := 13) (x := (Int64.ofInt 0)) rfl rfl rfl ?_
        refine h_aload_n (pc' := 14) rfl rfl rfl ?_
        refine h_getR (pc' := 17) rfl rfl rfl rfl rfl ?_
        refine h_iload_n (pc' := 18) rfl rfl rfl ?_
        refine h_calls (pc' := 21) (M := [(0, .int z35)]) rfl rfl rfl rfl rfl rfl ?_
        refine h_iload_n (pc' := 1) rfl rfl rfl ?_
        refine h_zne (tg := 9) (pc' := 4) rfl rfl rfl hz35 (fun c45 => absurd (Int.le_antisymm (by omega) (by omega)) c45) (fun c45 => ?_)
        refine h_bipush (pc' := 6) (x := (Int32.ofInt 12)) rfl rfl cb_12 ?_
        refine h_goto (pc' := 11) rfl rfl ?_
        refine h_iret rfl rfl (h_Kv ?_)
        refine h_bipush (pc' := 23) (x := (Int32.ofInt 6)) rfl rfl cb_6 ?_
        refine h_iadd (pc' := 24) (c := 18) rfl rfl ci_12 ci_6 rfl (by omega) (by omega) (fun z46 hz46 => ?_)
        refine h_iald (pc' := 25) (v := s0 99 18) rfl rfl rfl hz46 (by omega) (by omega) rfl (fun z47 hz47 => ?_)
        have tz47 := ty_99_3 I0 18 (by omega)
        refine h_iconst (pc' := 26) (x := (Int32.ofInt 1)) rfl rfl rfl ?_
        refine h_isub (pc' := 27) rfl rfl hz47 ci_1 rfl (by omega) (by omega) (fun z48 hz48 => ?_)
        refine h_i2l (pc' := 28) rfl rfl hz48 (fun z49 hz49 => ?_)
        refine h_calls (pc' := 31) (M := [(0, .long z44), (2, .long (Int64.ofInt 0)), (4, .long z49)]) rfl rfl rfl rfl rfl rfl ?_
        refine h_lload_n (pc' := 1) rfl rfl rfl ?_
        refine h_lload_n (pc' := 2) rfl rfl rfl ?_
        refine h_lcmp (pc' := 3) rfl rfl hz44 cl_0 (fun z50 hz50 => ?_)
        refine h_zlt (tg := 17) (pc' := 6) rfl rfl rfl rfl (fun c51 => absurd c51 (by omega)) (fun c51 => ?_)
        replace c51 := (h_lcr hz50).2.1 c51
        clear hz50
        refine h_lload_n (pc' := 7) rfl rfl rfl ?_
        refine h_lload (pc' := 9) rfl rfl rfl ?_
        refine h_lcmp (pc' := 10) rfl rfl hz44 hz49 (fun z52 hz52 => ?_)
        refine h_zgt (tg := 17) (pc' := 13) rfl rfl rfl rfl (fun c53 => ?_) (fun c53 => absurd c53 (by omega))
        replace c53 := (h_lcr hz52).2.2.2.1 c53
        clear hz52
        refine h_iconst (pc' := 18) (x := (Int32.ofInt 0)) rfl rfl rfl ?_
        refine h_zret rfl rfl ci_0 (by omega) (h_Kv ?_)
        refine h_zeq (tg := 38) (pc' := 34) rfl rfl rfl ci_0 (fun c54 => ?_) (fun c54 => absurd (Int.le_antisymm (by omega) (by omega)) c54)
        refine h_iconst (pc' := 39) (x := (Int32.ofInt 0)) rfl rfl rfl ?_
        refine h_zret rfl rfl ci_0 (by omega) (h_Kv ?_)
        refine h_zeq (tg := 44) (pc' := 9) rfl rfl rfl ci_0 (fun c55 => ?_) (fun c55 => absurd (Int.le_antisymm (by omega) (by omega)) c55)
        refine h_iconst (pc' := 45) (x := (Int32.ofInt (-1))) rfl rfl rfl ?_
        refine h_iret rfl rfl (h_Kv ?_)
        refine h_ceq (tg := 1441) (pc' := 404) rfl rfl rfl ci_m1 ci_m1 (fun c56 => ?_) (fun c56 => absurd (Int.le_antisymm (by omega) (by omega)) c56)
        exact kk _ I0 (by first | exact d_tape.le j0 (Int.le_antisymm (by omega) (by omega)) (by omega) (fun j => rfl) (fun j => rfl) | (exfalso; omega)) (Int.le_antisymm (by omega) (by omega)) j2
      · refine h_iconst (pc' := 13) (x := (Int32.ofInt 1)) rfl rfl rfl ?_
        refine h_goto (pc' := 17) rfl rfl ?_
        refine h_zret rfl rfl ci_1 (by omega) (h_Kv ?_)
        refine h_zeq (tg := 45) (pc' := 26) rfl rfl rfl ci_1 (fun c57 => absurd c57 (by omega)) (fun c57 => ?_)
        refine h_bipush (pc' := 28) (x := (Int32.ofInt 10)) rfl rfl cb_10 ?_
        refine h_aload_n (pc' := 29) rfl rfl rfl ?_
        refine h_getR (pc' := 32) rfl rfl rfl rfl rfl ?_
        refine h_iload_n (pc' := 33) rfl rfl rfl ?_
        refine h_iald (pc' := 34) (v := s0 14 (s0 0 (b3 + 2))) rfl rfl rfl hz4 (by omega) (by omega) rfl (fun z58 hz58 => ?_)
        have tz58 := ty_14 I0 (s0 0 (b3 + 2))
        refine h_imul (pc' := 35) rfl rfl ci_10 hz58 rfl (by omega) (by omega) (fun z59 hz59 => ?_)
        refine h_aload_n (pc' := 36) rfl rfl rfl ?_
        refine h_getR (pc' := 39) rfl rfl rfl rfl rfl ?_
        refine h_iload_n (pc' := 40) rfl rfl rfl ?_
        refine h_iald (pc' := 41) (v := s0 15 (s0 0 (b3 + 2))) rfl rfl rfl hz4 (by omega) (by omega) rfl (fun z60 hz60 => ?_)
        have tz60 := ty_15 I0 (s0 0 (b3 + 2))
        refine h_iadd (pc' := 42) rfl rfl hz59 hz60 rfl (by omega) (by omega) (fun z61 hz61 => ?_)
        refine h_goto (pc' := 46) rfl rfl ?_
        refine h_iret rfl rfl (h_Kv ?_)
        refine h_aload_n (pc' := 388) rfl rfl rfl ?_
        refine h_aload_n (pc' := 389) rfl rfl rfl ?_
        refine h_iload_n (pc' := 390) rfl rfl rfl ?_
        refine h_iconst (pc' := 391) (x := (Int32.ofInt 1)) rfl rfl rfl ?_
        refine h_iadd (pc' := 392) rfl rfl hy3 ci_1 rfl (by omega) (by omega) (fun z62 hz62 => ?_)
        refine h_iald (pc' := 393) (v := s0 0 (b3 + 1)) rfl rfl rfl hz62 (by omega) (by omega) rfl (fun z63 hz63 => ?_)
        have tz63 := h_rgv hz63
        refine h_aload_n (pc' := 394) rfl rfl rfl ?_
        refine h_iload_n (pc' := 395) rfl rfl rfl ?_
        refine h_iconst (pc' := 396) (x := (Int32.ofInt 2)) rfl rfl rfl ?_
        refine h_iadd (pc' := 397) rfl rfl hy3 ci_2 rfl (by omega) (by omega) (fun z64 hz64 => ?_)
        refine h_iald (pc' := 398) (v := s0 0 (b3 + 2)) rfl rfl rfl hz64 (by omega) (by omega) rfl (fun z65 hz65 => ?_)
        have tz65 := h_rgv hz65
        refine h_call (sp := false) (pc' := 401) (M := [(0, .ref 98), (1, .int z63), (2, .int z65)]) rfl rfl rfl rfl rfl rfl rfl rfl ?_
        refine h_aload_n (pc' := 1) rfl rfl rfl ?_
        refine h_iload_n (pc' := 2) rfl rfl rfl ?_
        refine h_iload_n (pc' := 3) rfl rfl rfl ?_
        refine h_call (sp := false) (pc' := 6) (M := [(0, .ref 98), (1, .int z63), (2, .int z65)]) rfl rfl rfl rfl rfl rfl rfl rfl ?_
        refine h_iload_n (pc' := 1) rfl rfl rfl ?_
        refine h_i2l (pc' := 2) rfl rfl hz63 (fun z66 hz66 => ?_)
        refine h_lconst (pc' := 3) (x := (Int64.ofInt 0)) rfl rfl rfl ?_
        refine h_lconst (pc' := 4) (x := (Int64.ofInt 1)) rfl rfl rfl ?_
        refine h_calls (pc' := 7) (M := [(0, .long z66), (2, .long (Int64.ofInt 0)), (4, .long (Int64.ofInt 1))]) rfl rfl rfl rfl rfl rfl ?_
        refine h_lload_n (pc' := 1) rfl rfl rfl ?_
        refine h_lload_n (pc' := 2) rfl rfl rfl ?_
        refine h_lcmp (pc' := 3) rfl rfl hz66 cl_0 (fun z67 hz67 => ?_)
        refine h_zlt (tg := 17) (pc' := 6) rfl rfl rfl rfl (fun c68 => absurd c68 (by omega)) (fun c68 => ?_)
        replace c68 := (h_lcr hz67).2.1 c68
        clear hz67
        refine h_lload_n (pc' := 7) rfl rfl rfl ?_
        refine h_lload (pc' := 9) rfl rfl rfl ?_
        refine h_lcmp (pc' := 10) rfl rfl hz66 cl_1 (fun z69 hz69 => ?_)
        refine h_zgt (tg := 17) (pc' := 13) rfl rfl rfl rfl (fun c70 => absurd c70 (by omega)) (fun c70 => ?_)
        replace c70 := (h_lcr hz69).2.2.1 c70
        clear hz69
        refine h_iconst (pc' := 14) (x := (Int32.ofInt 1)) rfl rfl rfl ?_
        refine h_goto (pc' := 18) rfl rfl ?_
        refine h_zret rfl rfl ci_1 (by omega) (h_Kv ?_)
        refine h_zeq (tg := 38) (pc' := 10) rfl rfl rfl ci_1 (fun c71 => absurd c71 (by omega)) (fun c71 => ?_)
        refine h_iload_n (pc' := 11) rfl rfl rfl ?_
        refine h_i2l (pc' := 12) rfl rfl hz65 (fun z72 hz72 => ?_)
        refine h_lconst (pc' := 13) (x := (Int64.ofInt 0)) rfl rfl rfl ?_
        refine h_aload_n (pc' := 14) rfl rfl rfl ?_
        refine h_getR (pc' := 17) rfl rfl rfl rfl rfl ?_
        refine h_iload_n (pc' := 18) rfl rfl rfl ?_
        refine h_calls (pc' := 21) (M := [(0, .int z63)]) rfl rfl rfl rfl rfl rfl ?_
        refine h_iload_n (pc' := 1) rfl rfl rfl ?_
        refine h_zne (tg := 9) (pc' := 4) rfl rfl rfl hz63 (fun c73 => absurd (Int.le_antisymm (by omega) (by omega)) c73) (fun c73 => ?_)
        refine h_bipush (pc' := 6) (x := (Int32.ofInt 12)) rfl rfl cb_12 ?_
        refine h_goto (pc' := 11) rfl rfl ?_
        refine h_iret rfl rfl (h_Kv ?_)
        refine h_bipush (pc' := 23) (x := (Int32.ofInt 6)) rfl rfl cb_6 ?_
        refine h_iadd (pc' := 24) (c := 18) rfl rfl ci_12 ci_6 rfl (by omega) (by omega) (fun z74 hz74 => ?_)
        refine h_iald (pc' := 25) (v := s0 99 18) rfl rfl rfl hz74 (by omega) (by omega) rfl (fun z75 hz75 => ?_)
        have tz75 := ty_99_3 I0 18 (by omega)
        refine h_iconst (pc' := 26) (x := (Int32.ofInt 1)) rfl rfl rfl ?_
        refine h_isub (pc' := 27) rfl rfl hz75 ci_1 rfl (by omega) (by omega) (fun z76 hz76 => ?_)
        refine h_i2l (pc' := 28) rfl rfl hz76 (fun z77 hz77 => ?_)
        refine h_calls (pc' := 31) (M := [(0, .long z72), (2, .long (Int64.ofInt 0)), (4, .long z77)]) rfl rfl rfl rfl rfl rfl ?_
        refine h_lload_n (pc' := 1) rfl rfl rfl ?_
        refine h_lload_n (pc' := 2) rfl rfl rfl ?_
        refine h_lcmp (pc' := 3) rfl rfl hz72 cl_0 (fun z78 hz78 => ?_)
        refine h_zlt (tg := 17) (pc' := 6) rfl rfl rfl rfl (fun c79 => absurd c79 (by omega)) (fun c79 => ?_)
        replace c79 := (h_lcr hz78).2.1 c79
        clear hz78
        refine h_lload_n (pc' := 7) rfl rfl rfl ?_
        refine h_lload (pc' := 9) rfl rfl rfl ?_
        refine h_lcmp (pc' := 10) rfl rfl hz72 hz77 (fun z80 hz80 => ?_)
        refine h_zgt (tg := 17) (pc' := 13) rfl rfl rfl rfl (fun c81 => absurd c81 (by omega)) (fun c81 => ?_)
        replace c81 := (h_lcr hz80).2.2.1 c81
        clear hz80
        refine h_iconst (pc' := 14) (x := (Int32.ofInt 1)) rfl rfl rfl ?_
        refine h_goto (pc' := 18) rfl rfl ?_
        refine h_zret rfl rfl ci_1 (by omega) (h_Kv ?_)
        refine h_zeq (tg := 38) (pc' := 34) rfl rfl rfl ci_1 (fun c82 => absurd c82 (by omega)) (fun c82 => ?_)
        refine h_iconst (pc' := 35) (x := (Int32.ofInt 1)) rfl rfl rfl ?_
        refine h_goto (pc' := 39) rfl rfl ?_
        refine h_zret rfl rfl ci_1 (by omega) (h_Kv ?_)
        refine h_zeq (tg := 44) (pc' := 9) rfl rfl rfl ci_1 (fun c83 => absurd c83 (by omega)) (fun c83 => ?_)
        refine h_bipush (pc' := 11) (x := (Int32.ofInt 10)) rfl rfl cb_10 ?_
        refine h_aload_n (pc' := 12) rfl rfl rfl ?_
        refine h_getR (pc' := 15) rfl rfl rfl rfl rfl ?_
        refine h_iload_n (pc' := 16) rfl rfl rfl ?_
        refine h_calls (pc' := 19) (M := [(0, .int z63)]) rfl rfl rfl rfl rfl rfl ?_
        refine h_iload_n (pc' := 1) rfl rfl rfl ?_
        refine h_zne (tg := 9) (pc' := 4) rfl rfl rfl hz63 (fun c84 => absurd (Int.le_antisymm (by omega) (by omega)) c84) (fun c84 => ?_)
        refine h_bipush (pc' := 6) (x := (Int32.ofInt 12)) rfl rfl cb_12 ?_
        refine h_goto (pc' := 11) rfl rfl ?_
        refine h_iret rfl rfl (h_Kv ?_)
        refine h_iconst (pc' := 20) (x := (Int32.ofInt 2)) rfl rfl rfl ?_
        refine h_iload_n (pc' := 21) rfl rfl rfl ?_
        refine h_imul (pc' := 22) rfl rfl ci_2 hz65 rfl (by have g0 := h_rgv hz65; omega) (by have g0 := h_rgv hz65; omega) (fun z85 hz85 => ?_)
        refine h_iadd (pc' := 23) rfl rfl ci_12 hz85 rfl (by omega) (by omega) (fun z86 hz86 => ?_)
        refine h_iald (pc' := 24) (v := s0 99 (12 + (2 * (s0 0 (b3 + 2))))) rfl rfl rfl hz86 (by omega) (by omega) rfl (fun z87 hz87 => ?_)
        have tz87 := ty_99_2 I0 (12 + (2 * (s0 0 (b3 + 2)))) (by omega)
        refine h_imul (pc' := 25) rfl rfl ci_10 hz87 rfl (by omega) (by omega) (fun z88 hz88 => ?_)
        refine h_aload_n (pc' := 26) rfl rfl rfl ?_
        refine h_getR (pc' := 29) rfl rfl rfl rfl rfl ?_
        refine h_iload_n (pc' := 30) rfl rfl rfl ?_
        refine h_calls (pc' := 33) (M := [(0, .int z63)]) rfl rfl rfl rfl rfl rfl ?_
        refine h_iload_n (pc' := 1) rfl rfl rfl ?_
        refine h_zne (tg := 9) (pc' := 4) rfl rfl rfl hz63 (fun c89 => absurd (Int.le_antisymm (by omega) (by omega)) c89) (fun c89 => ?_)
        refine h_bipush (pc' := 6) (x := (Int32.ofInt 12)) rfl rfl cb_12 ?_
        refine h_goto (pc' := 11) rfl rfl ?_
        refine h_iret rfl rfl (h_Kv ?_)
        refine h_iconst (pc' := 34) (x := (Int32.ofInt 2)) rfl rfl rfl ?_
        refine h_iload_n (pc' := 35) rfl rfl rfl ?_
        refine h_imul (pc' := 36) rfl rfl ci_2 hz65 rfl (by have g0 := h_rgv hz65; omega) (by have g0 := h_rgv hz65; omega) (fun z90 hz90 => ?_)
        refine h_iadd (pc' := 37) rfl rfl ci_12 hz90 rfl (by omega) (by omega) (fun z91 hz91 => ?_)
        refine h_iconst (pc' := 38) (x := (Int32.ofInt 1)) rfl rfl rfl ?_
        refine h_iadd (pc' := 39) rfl rfl hz91 ci_1 rfl (by omega) (by omega) (fun z92 hz92 => ?_)
        refine h_iald (pc' := 40) (v := s0 99 ((12 + (2 * (s0 0 (b3 + 2)))) + 1)) rfl rfl rfl hz92 (by omega) (by omega) rfl (fun z93 hz93 => ?_)
        have tz93 := ty_99_2 I0 ((12 + (2 * (s0 0 (b3 + 2)))) + 1) (by omega)
        refine h_iadd (pc' := 41) rfl rfl hz88 hz93 rfl (by omega) (by omega) (fun z94 hz94 => ?_)
        refine h_goto (pc' := 45) rfl rfl ?_
        refine h_iret rfl rfl (h_Kv ?_)
        refine h_ceq (tg := 1441) (pc' := 404) rfl rfl rfl hz61 hz94 (fun c95 => ?_) (fun c95 => ?_)
        · exact kk _ I0 (by first | exact d_tape.le j0 (Int.le_antisymm (by omega) (by omega)) (by omega) (fun j => rfl) (fun j => rfl) | (exfalso; omega)) (Int.le_antisymm (by omega) (by omega)) j2
        · refine h_iconst (pc' := 405) (x := (Int32.ofInt 0)) rfl rfl rfl ?_
          first | have ga := j2.mr (j := s0 0 (b3 + 2)) (by omega) (by omega) | skip
          first | have gb := j2.fe (j := s0 0 (b3 + 2)) (by omega) (by omega) | skip
          exfalso
          omega
  · refine h_iload_n (pc' := 5) rfl rfl rfl ?_
    refine h_iconst (pc' := 6) (x := (Int32.ofInt 1)) rfl rfl rfl ?_
    refine h_cne (tg := 13) (pc' := 9) rfl rfl rfl hz2 ci_1 (fun c96 => ?_) (fun c96 => ?_)
    · refine h_iconst (pc' := 14) (x := (Int32.ofInt 0)) rfl rfl rfl ?_
      refine h_zret rfl rfl ci_0 (by omega) (h_Kv ?_)
      refine h_zne (tg := 9) (pc' := 7) rfl rfl rfl ci_0 (fun c97 => absurd (Int.le_antisymm (by omega) (by omega)) c97) (fun c97 => ?_)
      refine h_iconst (pc' := 8) (x := (Int32.ofInt (-1))) rfl rfl rfl ?_
      refine h_iret rfl rfl (h_Kv ?_)
      refine h_aload_n (pc' := 388) rfl rfl rfl ?_
      refine h_aload_n (pc' := 389) rfl rfl rfl ?_
      refine h_iload_n (pc' := 390) rfl rfl rfl ?_
      refine h_iconst (pc' := 391) (x := (Int32.ofInt 1)) rfl rfl rfl ?_
      refine h_iadd (pc' := 392) rfl rfl hy3 ci_1 rfl (by omega) (by omega) (fun z98 hz98 => ?_)
      refine h_iald (pc' := 393) (v := s0 0 (b3 + 1)) rfl rfl rfl hz98 (by omega) (by omega) rfl (fun z99 hz99 => ?_)
      have tz99 := h_rgv hz99
      refine h_aload_n (pc' := 394) rfl rfl rfl ?_
      refine h_iload_n (pc' := 395) rfl rfl rfl ?_
      refine h_iconst (pc' := 396) (x := (Int32.ofInt 2)) rfl rfl rfl ?_
      refine h_iadd (pc' := 397) rfl rfl hy3 ci_2 rfl (by omega) (by omega) (fun z100 hz100 => ?_)
      refine h_iald (pc' := 398) (v := s0 0 (b3 + 2)) rfl rfl rfl hz100 (by omega) (by omega) rfl (fun z101 hz101 => ?_)
      have tz101 := h_rgv hz101
      refine h_call (sp := false) (pc' := 401) (M := [(0, .ref 98), (1, .int z99), (2, .int z101)]) rfl rfl rfl rfl rfl rfl rfl rfl ?_
      refine h_aload_n (pc' := 1) rfl rfl rfl ?_
      refine h_iload_n (pc' := 2) rfl rfl rfl ?_
      refine h_iload_n (pc' := 3) rfl rfl rfl ?_
      refine h_call (sp := false) (pc' := 6) (M := [(0, .ref 98), (1, .int z99), (2, .int z101)]) rfl rfl rfl rfl rfl rfl rfl rfl ?_
      refine h_iload_n (pc' := 1) rfl rfl rfl ?_
      refine h_i2l (pc' := 2) rfl rfl hz99 (fun z102 hz102 => ?_)
      refine h_lconst (pc' := 3) (x := (Int64.ofInt 0)) rfl rfl rfl ?_
      refine h_lconst (pc' := 4) (x := (Int64.ofInt 1)) rfl rfl rfl ?_
      refine h_calls (pc' := 7) (M := [(0, .long z102), (2, .long (Int64.ofInt 0)), (4, .long (Int64.ofInt 1))]) rfl rfl rfl rfl rfl rfl ?_
      refine h_lload_n (pc' := 1) rfl rfl rfl ?_
      refine h_lload_n (pc' := 2) rfl rfl rfl ?_
      refine h_lcmp (pc' := 3) rfl rfl hz102 cl_0 (fun z103 hz103 => ?_)
      refine h_zlt (tg := 17) (pc' := 6) rfl rfl rfl rfl (fun c104 => ?_) (fun c104 => ?_)
      · replace c104 := (h_lcr hz103).1 c104
        clear hz103
        refine h_iconst (pc' := 18) (x := (Int32.ofInt 0)) rfl rfl rfl ?_
        refine h_zret rfl rfl ci_0 (by omega) (h_Kv ?_)
        refine h_zeq (tg := 38) (pc' := 10) rfl rfl rfl ci_0 (fun c105 => ?_) (fun c105 => absurd (Int.le_antisymm (by omega) (by omega)) c105)
        refine h_iconst (pc' := 39) (x := (Int32.ofInt 0)) rfl rfl rfl ?_
        refine h_zret rfl rfl ci_0 (by omega) (h_Kv ?_)
        refine h_zeq (tg := 44) (pc' := 9) rfl rfl rfl ci_0 (fun c106 => ?_) (fun c106 => absurd (Int.le_antisymm (by omega) (by omega)) c106)
        refine h_iconst (pc' := 45) (x := (Int32.ofInt (-1))) rfl rfl rfl ?_
        refine h_iret rfl rfl (h_Kv ?_)
        refine h_ceq (tg := 1441) (pc' := 404) rfl rfl rfl ci_m1 ci_m1 (fun c107 => ?_) (fun c107 => absurd (Int.le_antisymm (by omega) (by omega)) c107)
        exact kk _ I0 (by first | exact d_tape.le j0 (Int.le_antisymm (by omega) (by omega)) (by omega) (fun j => rfl) (fun j => rfl) | (exfalso; omega)) (Int.le_antisymm (by omega) (by omega)) j2
      · replace c104 := (h_lcr hz103).2.1 c104
        clear hz103
        refine h_lload_n (pc' := 7) rfl rfl rfl ?_
        refine h_lload (pc' := 9) rfl rfl rfl ?_
        refine h_lcmp (pc' := 10) rfl rfl hz102 cl_1 (fun z108 hz108 => ?_)
        refine h_zgt (tg := 17) (pc' := 13) rfl rfl rfl rfl (fun c109 => ?_) (fun c109 => absurd c109 (by omega))
        replace c109 := (h_lcr hz108).2.2.2.1 c109
        clear hz108
        refine h_iconst (pc' := 18) (x := (Int32.ofInt 0)) rfl rfl rfl ?_
        refine h_zret rfl rfl ci_0 (by omega) (h_Kv ?_)
        refine h_zeq (tg := 38) (pc' := 10) rfl rfl rfl ci_0 (fun c110 => ?_) (fun c110 => absurd (Int.le_antisymm (by omega) (by omega)) c110)
        refine h_iconst (pc' := 39) (x := (Int32.ofInt 0)) rfl rfl rfl ?_
        refine h_zret rfl rfl ci_0 (by omega) (h_Kv ?_)
        refine h_zeq (tg := 44) (pc' := 9) rfl rfl rfl ci_0 (fun c111 => ?_) (fun c111 => absurd (Int.le_antisymm (by omega) (by omega)) c111)
        refine h_iconst (pc' := 45) (x := (Int32.ofInt (-1))) rfl rfl rfl ?_
        refine h_iret rfl rfl (h_Kv ?_)
        refine h_ceq (tg := 1441) (pc' := 404) rfl rfl rfl ci_m1 ci_m1 (fun c112 => ?_) (fun c112 => absurd (Int.le_antisymm (by omega) (by omega)) c112)
        exact kk _ I0 (by first | exact d_tape.le j0 (Int.le_antisymm (by omega) (by omega)) (by omega) (fun j => rfl) (fun j => rfl) | (exfalso; omega)) (Int.le_antisymm (by omega) (by omega)) j2
    · refine h_iconst (pc' := 10) (x := (Int32.ofInt 1)) rfl rfl rfl ?_
      refine h_goto (pc' := 14) rfl rfl ?_
      refine h_zret rfl rfl ci_1 (by omega) (h_Kv ?_)
      refine h_zne (tg := 9) (pc' := 7) rfl rfl rfl ci_1 (fun c113 => ?_) (fun c113 => absurd c113 (by omega))
      refine h_aload_n (pc' := 10) rfl rfl rfl ?_
      refine h_getR (pc' := 13) rfl rfl rfl rfl rfl ?_
      refine h_iload_n (pc' := 14) rfl rfl rfl ?_
      refine h_call (sp := false) (pc' := 17) (M := [(0, .ref 10), (1, .int z2)]) rfl rfl rfl rfl rfl rfl rfl rfl ?_
      refine h_iload_n (pc' := 1) rfl rfl rfl ?_
      refine h_zne (tg := 11) (pc' := 4) rfl rfl rfl hz2 (fun c114 => ?_) (fun c114 => absurd c114 (by omega))
      refine h_aload_n (pc' := 12) rfl rfl rfl ?_
      refine h_getR (pc' := 15) rfl rfl rfl rfl rfl ?_
      refine h_aret rfl rfl (h_Kv ?_)
      refine h_astore_n (pc' := 18) (M := [(3, .ref 16), (0, .ref 9), (1, .int z2), (2, .int z4)]) rfl rfl rfl rfl ?_
      refine h_aload_n (pc' := 19) rfl rfl rfl ?_
      refine h_iload_n (pc' := 20) rfl rfl rfl ?_
      refine h_call (sp := false) (pc' := 23) (M := [(0, .ref 16), (1, .int z4)]) rfl rfl rfl rfl rfl rfl rfl rfl ?_
      refine h_iload_n (pc' := 1) rfl rfl rfl ?_
      refine h_zlt (tg := 16) (pc' := 4) rfl rfl rfl hz4 (fun c115 => ?_) (fun c115 => ?_)
      · refine h_iconst (pc' := 17) (x := (Int32.ofInt 0)) rfl rfl rfl ?_
        refine h_zret rfl rfl ci_0 (by omega) (h_Kv ?_)
        refine h_zeq (tg := 45) (pc' := 26) rfl rfl rfl ci_0 (fun c116 => ?_) (fun c116 => absurd (Int.le_antisymm (by omega) (by omega)) c116)
        refine h_iconst (pc' := 46) (x := (Int32.ofInt (-1))) rfl rfl rfl ?_
        refine h_iret rfl rfl (h_Kv ?_)
        refine h_aload_n (pc' := 388) rfl rfl rfl ?_
        refine h_aload_n (pc' := 389) rfl rfl rfl ?_
        refine h_iload_n (pc' := 390) rfl rfl rfl ?_
        refine h_iconst (pc' := 391) (x := (Int32.ofInt 1)) rfl rfl rfl ?_
        refine h_iadd (pc' := 392) rfl rfl hy3 ci_1 rfl (by omega) (by omega) (fun z117 hz117 => ?_)
        refine h_iald (pc' := 393) (v := s0 0 (b3 + 1)) rfl rfl rfl hz117 (by omega) (by omega) rfl (fun z118 hz118 => ?_)
        have tz118 := h_rgv hz118
        refine h_aload_n (pc' := 394) rfl rfl rfl ?_
        refine h_iload_n (pc' := 395) rfl rfl rfl ?_
        refine h_iconst (pc' := 396) (x := (Int32.ofInt 2)) rfl rfl rfl ?_
        refine h_iadd (pc' := 397) rfl rfl hy3 ci_2 rfl (by omega) (by omega) (fun z119 hz119 => ?_)
        refine h_iald (pc' := 398) (v := s0 0 (b3 + 2)) rfl rfl rfl hz119 (by omega) (by omega) rfl (fun z120 hz120 => ?_)
        have tz120 := h_rgv hz120
        refine h_call (sp := false) (pc' := 401) (M := [(0, .ref 98), (1, .int z118), (2, .int z120)]) rfl rfl rfl rfl rfl rfl rfl rfl ?_
        refine h_aload_n (pc' := 1) rfl rfl rfl ?_
        refine h_iload_n (pc' := 2) rfl rfl rfl ?_
        refine h_iload_n (pc' := 3) rfl rfl rfl ?_
        refine h_call (sp := false) (pc' := 6) (M := [(0, .ref 98), (1, .int z118), (2, .int z120)]) rfl rfl rfl rfl rfl rfl rfl rfl ?_
        refine h_iload_n (pc' := 1) rfl rfl rfl ?_
        refine h_i2l (pc' := 2) rfl rfl hz118 (fun z121 hz121 => ?_)
        refine h_lconst (pc' := 3) (x := (Int64.ofInt 0)) rfl rfl rfl ?_
        refine h_lconst (pc' := 4) (x := (Int64.ofInt 1)) rfl rfl rfl ?_
        refine h_calls (pc' := 7) (M := [(0, .long z121), (2, .long (Int64.ofInt 0)), (4, .long (Int64.ofInt 1))]) rfl rfl rfl rfl rfl rfl ?_
        refine h_lload_n (pc' := 1) rfl rfl rfl ?_
        refine h_lload_n (pc' := 2) rfl rfl rfl ?_
        refine h_lcmp (pc' := 3) rfl rfl hz121 cl_0 (fun z122 hz122 => ?_)
        refine h_zlt (tg := 17) (pc' := 6) rfl rfl rfl rfl (fun c123 => absurd c123 (by omega)) (fun c123 => ?_)
        replace c123 := (h_lcr hz122).2.1 c123
        clear hz122
        refine h_lload_n (pc' := 7) rfl rfl rfl ?_
        refine h_lload (pc' := 9) rfl rfl rfl ?_
        refine h_lcmp (pc' := 10) rfl rfl hz121 cl_1 (fun z124 hz124 => ?_)
        refine h_zgt (tg := 17) (pc' := 13) rfl rfl rfl rfl (fun c125 => absurd c125 (by omega)) (fun c125 => ?_)
        replace c125 := (h_lcr hz124).2.2.1 c125
        clear hz124
        refine h_iconst (pc' := 14) (x := (Int32.ofInt 1)) rfl rfl rfl ?_
        refine h_goto (pc' := 18) rfl rfl ?_
        refine h_zret rfl rfl ci_1 (by omega) (h_Kv ?_)
        refine h_zeq (tg := 38) (pc' := 10) rfl rfl rfl ci_1 (fun c126 => absurd c126 (by omega)) (fun c126 => ?_)
        refine h_iload_n (pc' := 11) rfl rfl rfl ?_
        refine h_i2l (pc' := 12) rfl rfl hz120 (fun z127 hz127 => ?_)
        refine h_lconst (pc' := 13) (x := (Int64.ofInt 0)) rfl rfl rfl ?_
        refine h_aload_n (pc' := 14) rfl rfl rfl ?_
        refine h_getR (pc' := 17) rfl rfl rfl rfl rfl ?_
        refine h_iload_n (pc' := 18) rfl rfl rfl ?_
        refine h_calls (pc' := 21) (M := [(0, .int z118)]) rfl rfl rfl rfl rfl rfl ?_
        refine h_iload_n (pc' := 1) rfl rfl rfl ?_
        refine h_zne (tg := 9) (pc' := 4) rfl rfl rfl hz118 (fun c128 => ?_) (fun c128 => absurd c128 (by omega))
        refine h_bipush (pc' := 11) (x := (Int32.ofInt 19)) rfl rfl cb_19 ?_
        refine h_iret rfl rfl (h_Kv ?_)
        refine h_bipush (pc' := 23) (x := (Int32.ofInt 6)) rfl rfl cb_6 ?_
        refine h_iadd (pc' := 24) (c := 25) rfl rfl ci_19 ci_6 rfl (by omega) (by omega) (fun z129 hz129 => ?_)
        refine h_iald (pc' := 25) (v := s0 99 25) rfl rfl rfl hz129 (by omega) (by omega) rfl (fun z130 hz130 => ?_)
        have tz130 := ty_99_5 I0 25 (by omega)
        refine h_iconst (pc' := 26) (x := (Int32.ofInt 1)) rfl rfl rfl ?_
        refine h_isub (pc' := 27) rfl rfl hz130 ci_1 rfl (by omega) (by omega) (fun z131 hz131 => ?_)
        refine h_i2l (pc' := 28) rfl rfl hz131 (fun z132 hz132 => ?_)
        refine h_calls (pc' := 31) (M := [(0, .long z127), (2, .long (Int64.ofInt 0)), (4, .long z132)]) rfl rfl rfl rfl rfl rfl ?_
        refine h_lload_n (pc' := 1) rfl rfl rfl ?_
        refine h_lload_n (pc' := 2) rfl rfl rfl ?_
        refine h_lcmp (pc' := 3) rfl rfl hz127 cl_0 (fun z133 hz133 => ?_)
        refine h_zlt (tg := 17) (pc' := 6) rfl rfl rfl rfl (fun c134 => ?_) (fun c134 => absurd c134 (by omega))
        replace c134 := (h_lcr hz133).1 c134
        clear hz133
        refine h_iconst (pc' := 18) (x := (Int32.ofInt 0)) rfl rfl rfl ?_
        refine h_zret rfl rfl ci_0 (by omega) (h_Kv ?_)
        refine h_zeq (tg := 38) (pc' := 34) rfl rfl rfl ci_0 (fun c135 => ?_) (fun c135 => absurd (Int.le_antisymm (by omega) (by omega)) c135)
        refine h_iconst (pc' := 39) (x := (Int32.ofInt 0)) rfl rfl rfl ?_
        refine h_zret rfl rfl ci_0 (by omega) (h_Kv ?_)
        refine h_zeq (tg := 44) (pc' := 9) rfl rfl rfl ci_0 (fun c136 => ?_) (fun c136 => absurd (Int.le_antisymm (by omega) (by omega)) c136)
        refine h_iconst (pc' := 45) (x := (Int32.ofInt (-1))) rfl rfl rfl ?_
        refine h_iret rfl rfl (h_Kv ?_)
        refine h_ceq (tg := 1441) (pc' := 404) rfl rfl rfl ci_m1 ci_m1 (fun c137 => ?_) (fun c137 => absurd (Int.le_antisymm (by omega) (by omega)) c137)
        exact kk _ I0 (by first | exact d_tape.le j0 (Int.le_antisymm (by omega) (by omega)) (by omega) (fun j => rfl) (fun j => rfl) | (exfalso; omega)) (Int.le_antisymm (by omega) (by omega)) j2
      · refine h_iload_n (pc' := 5) rfl rfl rfl ?_
        refine h_aload_n (pc' := 6) rfl rfl rfl ?_
        refine h_getI (pc' := 9) (v := s0 16 2) rfl rfl rfl rfl rfl rfl (fun z138 hz138 => ?_)
        have tz138 := tf_16_2 I0
        refine h_cge (tg := 16) (pc' := 12) rfl rfl rfl hz4 hz138 (fun c139 => ?_) (fun c139 => ?_)
        · refine h_iconst (pc' := 17) (x := (Int32.ofInt 0)) rfl rfl rfl ?_
          refine h_zret rfl rfl ci_0 (by omega) (h_Kv ?_)
          refine h_zeq (tg := 45) (pc' := 26) rfl rfl rfl ci_0 (fun c140 => ?_) (fun c140 => absurd (Int.le_antisymm (by omega) (by omega)) c140)
          refine h_iconst (pc' := 46) (x := (Int32.ofInt (-1))) rfl rfl rfl ?_
          refine h_iret rfl rfl (h_Kv ?_)
          refine h_aload_n (pc' := 388) rfl rfl rfl ?_
          refine h_aload_n (pc' := 389) rfl rfl rfl ?_
          refine h_iload_n (pc' := 390) rfl rfl rfl ?_
          refine h_iconst (pc' := 391) (x := (Int32.ofInt 1)) rfl rfl rfl ?_
          refine h_iadd (pc' := 392) rfl rfl hy3 ci_1 rfl (by omega) (by omega) (fun z141 hz141 => ?_)
          refine h_iald (pc' := 393) (v := s0 0 (b3 + 1)) rfl rfl rfl hz141 (by omega) (by omega) rfl (fun z142 hz142 => ?_)
          have tz142 := h_rgv hz142
          refine h_aload_n (pc' := 394) rfl rfl rfl ?_
          refine h_iload_n (pc' := 395) rfl rfl rfl ?_
          refine h_iconst (pc' := 396) (x := (Int32.ofInt 2)) rfl rfl rfl ?_
          refine h_iadd (pc' := 397) rfl rfl hy3 ci_2 rfl (by omega) (by omega) (fun z143 hz143 => ?_)
          refine h_iald (pc' := 398) (v := s0 0 (b3 + 2)) rfl rfl rfl hz143 (by omega) (by omega) rfl (fun z144 hz144 => ?_)
          have tz144 := h_rgv hz144
          refine h_call (sp := false) (pc' := 401) (M := [(0, .ref 98), (1, .int z142), (2, .int z144)]) rfl rfl rfl rfl rfl rfl rfl rfl ?_
          refine h_aload_n (pc' := 1) rfl rfl rfl ?_
          refine h_iload_n (pc' := 2) rfl rfl rfl ?_
          refine h_iload_n (pc' := 3) rfl rfl rfl ?_
          refine h_call (sp := false) (pc' := 6) (M := [(0, .ref 98), (1, .int z142), (2, .int z144)]) rfl rfl rfl rfl rfl rfl rfl rfl ?_
          refine h_iload_n (pc' := 1) rfl rfl rfl ?_
          refine h_i2l (pc' := 2) rfl rfl hz142 (fun z145 hz145 => ?_)
          refine h_lconst (pc' := 3) (x := (Int64.ofInt 0)) rfl rfl rfl ?_
          refine h_lconst (pc' := 4) (x := (Int64.ofInt 1)) rfl rfl rfl ?_
          refine h_calls (pc' := 7) (M := [(0, .long z145), (2, .long (Int64.ofInt 0)), (4, .long (Int64.ofInt 1))]) rfl rfl rfl rfl rfl rfl ?_
          refine h_lload_n (pc' := 1) rfl rfl rfl ?_
          refine h_lload_n (pc' := 2) rfl rfl rfl ?_
          refine h_lcmp (pc' := 3) rfl rfl hz145 cl_0 (fun z146 hz146 => ?_)
          refine h_zlt (tg := 17) (pc' := 6) rfl rfl rfl rfl (fun c147 => absurd c147 (by omega)) (fun c147 => ?_)
          replace c147 := (h_lcr hz146).2.1 c147
          clear hz146
          refine h_lload_n (pc' := 7) rfl rfl rfl ?_
          refine h_lload (pc' := 9) rfl rfl rfl ?_
          refine h_lcmp (pc' := 10) rfl rfl hz145 cl_1 (fun z148 hz148 => ?_)
          refine h_zgt (tg := 17) (pc' := 13) rfl rfl rfl rfl (fun c149 => absurd c149 (by omega)) (fun c149 => ?_)
          replace c149 := (h_lcr hz148).2.2.1 c149
          clear hz148
          refine h_iconst (pc' := 14) (x := (Int32.ofInt 1)) rfl rfl rfl ?_
          refine h_goto (pc' := 18) rfl rfl ?_
          refine h_zret rfl rfl ci_1 (by omega) (h_Kv ?_)
          refine h_zeq (tg := 38) (pc' := 10) rfl rfl rfl ci_1 (fun c150 => absurd c150 (by omega)) (fun c150 => ?_)
          refine h_iload_n (pc' := 11) rfl rfl rfl ?_
          refine h_i2l (pc' := 12) rfl rfl hz144 (fun z151 hz151 => ?_)
          refine h_lconst (pc' := 13) (x := (Int64.ofInt 0)) rfl rfl rfl ?_
          refine h_aload_n (pc' := 14) rfl rfl rfl ?_
          refine h_getR (pc' := 17) rfl rfl rfl rfl rfl ?_
          refine h_iload_n (pc' := 18) rfl rfl rfl ?_
          refine h_calls (pc' := 21) (M := [(0, .int z142)]) rfl rfl rfl rfl rfl rfl ?_
          refine h_iload_n (pc' := 1) rfl rfl rfl ?_
          refine h_zne (tg := 9) (pc' := 4) rfl rfl rfl hz142 (fun c152 => ?_) (fun c152 => absurd c152 (by omega))
          refine h_bipush (pc' := 11) (x := (Int32.ofInt 19)) rfl rfl cb_19 ?_
          refine h_iret rfl rfl (h_Kv ?_)
          refine h_bipush (pc' := 23) (x := (Int32.ofInt 6)) rfl rfl cb_6 ?_
          refine h_iadd (pc' := 24) (c := 25) rfl rfl ci_19 ci_6 rfl (by omega) (by omega) (fun z153 hz153 => ?_)
          refine h_iald (pc' := 25) (v := s0 99 25) rfl rfl rfl hz153 (by omega) (by omega) rfl (fun z154 hz154 => ?_)
          have tz154 := ty_99_5 I0 25 (by omega)
          refine h_iconst (pc' := 26) (x := (Int32.ofInt 1)) rfl rfl rfl ?_
          refine h_isub (pc' := 27) rfl rfl hz154 ci_1 rfl (by omega) (by omega) (fun z155 hz155 => ?_)
          refine h_i2l (pc' := 28) rfl rfl hz155 (fun z156 hz156 => ?_)
          refine h_calls (pc' := 31) (M := [(0, .long z151), (2, .long (Int64.ofInt 0)), (4, .long z156)]) rfl rfl rfl rfl rfl rfl ?_
          refine h_lload_n (pc' := 1) rfl rfl rfl ?_
          refine h_lload_n (pc' := 2) rfl rfl rfl ?_
          refine h_lcmp (pc' := 3) rfl rfl hz151 cl_0 (fun z157 hz157 => ?_)
          refine h_zlt (tg := 17) (pc' := 6) rfl rfl rfl rfl (fun c158 => absurd c158 (by omega)) (fun c158 => ?_)
          replace c158 := (h_lcr hz157).2.1 c158
          clear hz157
          refine h_lload_n (pc' := 7) rfl rfl rfl ?_
          refine h_lload (pc' := 9) rfl rfl rfl ?_
          refine h_lcmp (pc' := 10) rfl rfl hz151 hz156 (fun z159 hz159 => ?_)
          refine h_zgt (tg := 17) (pc' := 13) rfl rfl rfl rfl (fun c160 => ?_) (fun c160 => absurd c160 (by omega))
          replace c160 := (h_lcr hz159).2.2.2.1 c160
          clear hz159
          refine h_iconst (pc' := 18) (x := (Int32.ofInt 0)) rfl rfl rfl ?_
          refine h_zret rfl rfl ci_0 (by omega) (h_Kv ?_)
          refine h_zeq (tg := 38) (pc' := 34) rfl rfl rfl ci_0 (fun c161 => ?_) (fun c161 => absurd (Int.le_antisymm (by omega) (by omega)) c161)
          refine h_iconst (pc' := 39) (x := (Int32.ofInt 0)) rfl rfl rfl ?_
          refine h_zret rfl rfl ci_0 (by omega) (h_Kv ?_)
          refine h_zeq (tg := 44) (pc' := 9) rfl rfl rfl ci_0 (fun c162 => ?_) (fun c162 => absurd (Int.le_antisymm (by omega) (by omega)) c162)
          refine h_iconst (pc' := 45) (x := (Int32.ofInt (-1))) rfl rfl rfl ?_
          refine h_iret rfl rfl (h_Kv ?_)
          refine h_ceq (tg := 1441) (pc' := 404) rfl rfl rfl ci_m1 ci_m1 (fun c163 => ?_) (fun c163 => absurd (Int.le_antisymm (by omega) (by omega)) c163)
          exact kk _ I0 (by first | exact d_tape.le j0 (Int.le_antisymm (by omega) (by omega)) (by omega) (fun j => rfl) (fun j => rfl) | (exfalso; omega)) (Int.le_antisymm (by omega) (by omega)) j2
        · refine h_iconst (pc' := 13) (x := (Int32.ofInt 1)) rfl rfl rfl ?_
          refine h_goto (pc' := 17) rfl rfl ?_
          refine h_zret rfl rfl ci_1 (by omega) (h_Kv ?_)
          refine h_zeq (tg := 45) (pc' := 26) rfl rfl rfl ci_1 (fun c164 => absurd c164 (by omega)) (fun c164 => ?_)
          refine h_bipush (pc' := 28) (x := (Int32.ofInt 10)) rfl rfl cb_10 ?_
          refine h_aload_n (pc' := 29) rfl rfl rfl ?_
          refine h_getR (pc' := 32) rfl rfl rfl rfl rfl ?_
          refine h_iload_n (pc' := 33) rfl rfl rfl ?_
          refine h_iald (pc' := 34) (v := s0 17 (s0 0 (b3 + 2))) rfl rfl rfl hz4 (by omega) (by omega) rfl (fun z165 hz165 => ?_)
          have tz165 := ty_17 I0 (s0 0 (b3 + 2))
          refine h_imul (pc' := 35) rfl rfl ci_10 hz165 rfl (by omega) (by omega) (fun z166 hz166 => ?_)
          refine h_aload_n (pc' := 36) rfl rfl rfl ?_
          refine h_getR (pc' := 39) rfl rfl rfl rfl rfl ?_
          refine h_iload_n (pc' := 40) rfl rfl rfl ?_
          refine h_iald (pc' := 41) (v := s0 18 (s0 0 (b3 + 2))) rfl rfl rfl hz4 (by omega) (by omega) rfl (fun z167 hz167 => ?_)
          have tz167 := ty_18 I0 (s0 0 (b3 + 2))
          refine h_iadd (pc' := 42) rfl rfl hz166 hz167 rfl (by omega) (by omega) (fun z168 hz168 => ?_)
          refine h_goto (pc' := 46) rfl rfl ?_
          refine h_iret rfl rfl (h_Kv ?_)
          refine h_aload_n (pc' := 388) rfl rfl rfl ?_
          refine h_aload_n (pc' := 389) rfl rfl rfl ?_
          refine h_iload_n (pc' := 390) rfl rfl rfl ?_
          refine h_iconst (pc' := 391) (x := (Int32.ofInt 1)) rfl rfl rfl ?_
          refine h_iadd (pc' := 392) rfl rfl hy3 ci_1 rfl (by omega) (by omega) (fun z169 hz169 => ?_)
          refine h_iald (pc' := 393) (v := s0 0 (b3 + 1)) rfl rfl rfl hz169 (by omega) (by omega) rfl (fun z170 hz170 => ?_)
          have tz170 := h_rgv hz170
          refine h_aload_n (pc' := 394) rfl rfl rfl ?_
          refine h_iload_n (pc' := 395) rfl rfl rfl ?_
          refine h_iconst (pc' := 396) (x := (Int32.ofInt 2)) rfl rfl rfl ?_
          refine h_iadd (pc' := 397) rfl rfl hy3 ci_2 rfl (by omega) (by omega) (fun z171 hz171 => ?_)
          refine h_iald (pc' := 398) (v := s0 0 (b3 + 2)) rfl rfl rfl hz171 (by omega) (by omega) rfl (fun z172 hz172 => ?_)
          have tz172 := h_rgv hz172
          refine h_call (sp := false) (pc' := 401) (M := [(0, .ref 98), (1, .int z170), (2, .int z172)]) rfl rfl rfl rfl rfl rfl rfl rfl ?_
          refine h_aload_n (pc' := 1) rfl rfl rfl ?_
          refine h_iload_n (pc' := 2) rfl rfl rfl ?_
          refine h_iload_n (pc' := 3) rfl rfl rfl ?_
          refine h_call (sp := false) (pc' := 6) (M := [(0, .ref 98), (1, .int z170), (2, .int z172)]) rfl rfl rfl rfl rfl rfl rfl rfl ?_
          refine h_iload_n (pc' := 1) rfl rfl rfl ?_
          refine h_i2l (pc' := 2) rfl rfl hz170 (fun z173 hz173 => ?_)
          refine h_lconst (pc' := 3) (x := (Int64.ofInt 0)) rfl rfl rfl ?_
          refine h_lconst (pc' := 4) (x := (Int64.ofInt 1)) rfl rfl rfl ?_
          refine h_calls (pc' := 7) (M := [(0, .long z173), (2, .long (Int64.ofInt 0)), (4, .long (Int64.ofInt 1))]) rfl rfl rfl rfl rfl rfl ?_
          refine h_lload_n (pc' := 1) rfl rfl rfl ?_
          refine h_lload_n (pc' := 2) rfl rfl rfl ?_
          refine h_lcmp (pc' := 3) rfl rfl hz173 cl_0 (fun z174 hz174 => ?_)
          refine h_zlt (tg := 17) (pc' := 6) rfl rfl rfl rfl (fun c175 => absurd c175 (by omega)) (fun c175 => ?_)
          replace c175 := (h_lcr hz174).2.1 c175
          clear hz174
          refine h_lload_n (pc' := 7) rfl rfl rfl ?_
          refine h_lload (pc' := 9) rfl rfl rfl ?_
          refine h_lcmp (pc' := 10) rfl rfl hz173 cl_1 (fun z176 hz176 => ?_)
          refine h_zgt (tg := 17) (pc' := 13) rfl rfl rfl rfl (fun c177 => absurd c177 (by omega)) (fun c177 => ?_)
          replace c177 := (h_lcr hz176).2.2.1 c177
          clear hz176
          refine h_iconst (pc' := 14) (x := (Int32.ofInt 1)) rfl rfl rfl ?_
          refine h_goto (pc' := 18) rfl rfl ?_
          refine h_zret rfl rfl ci_1 (by omega) (h_Kv ?_)
          refine h_zeq (tg := 38) (pc' := 10) rfl rfl rfl ci_1 (fun c178 => absurd c178 (by omega)) (fun c178 => ?_)
          refine h_iload_n (pc' := 11) rfl rfl rfl ?_
          refine h_i2l (pc' := 12) rfl rfl hz172 (fun z179 hz179 => ?_)
          refine h_lconst (pc' := 13) (x := (Int64.ofInt 0)) rfl rfl rfl ?_
          refine h_aload_n (pc' := 14) rfl rfl rfl ?_
          refine h_getR (pc' := 17) rfl rfl rfl rfl rfl ?_
          refine h_iload_n (pc' := 18) rfl rfl rfl ?_
          refine h_calls (pc' := 21) (M := [(0, .int z170)]) rfl rfl rfl rfl rfl rfl ?_
          refine h_iload_n (pc' := 1) rfl rfl rfl ?_
          refine h_zne (tg := 9) (pc' := 4) rfl rfl rfl hz170 (fun c180 => ?_) (fun c180 => absurd c180 (by omega))
          refine h_bipush (pc' := 11) (x := (Int32.ofInt 19)) rfl rfl cb_19 ?_
          refine h_iret rfl rfl (h_Kv ?_)
          refine h_bipush (pc' := 23) (x := (Int32.ofInt 6)) rfl rfl cb_6 ?_
          refine h_iadd (pc' := 24) (c := 25) rfl rfl ci_19 ci_6 rfl (by omega) (by omega) (fun z181 hz181 => ?_)
          refine h_iald (pc' := 25) (v := s0 99 25) rfl rfl rfl hz181 (by omega) (by omega) rfl (fun z182 hz182 => ?_)
          have tz182 := ty_99_5 I0 25 (by omega)
          refine h_iconst (pc' := 26) (x := (Int32.ofInt 1)) rfl rfl rfl ?_
          refine h_isub (pc' := 27) rfl rfl hz182 ci_1 rfl (by omega) (by omega) (fun z183 hz183 => ?_)
          refine h_i2l (pc' := 28) rfl rfl hz183 (fun z184 hz184 => ?_)
          refine h_calls (pc' := 31) (M := [(0, .long z179), (2, .long (Int64.ofInt 0)), (4, .long z184)]) rfl rfl rfl rfl rfl rfl ?_
          refine h_lload_n (pc' := 1) rfl rfl rfl ?_
          refine h_lload_n (pc' := 2) rfl rfl rfl ?_
          refine h_lcmp (pc' := 3) rfl rfl hz179 cl_0 (fun z185 hz185 => ?_)
          refine h_zlt (tg := 17) (pc' := 6) rfl rfl rfl rfl (fun c186 => absurd c186 (by omega)) (fun c186 => ?_)
          replace c186 := (h_lcr hz185).2.1 c186
          clear hz185
          refine h_lload_n (pc' := 7) rfl rfl rfl ?_
          refine h_lload (pc' := 9) rfl rfl rfl ?_
          refine h_lcmp (pc' := 10) rfl rfl hz179 hz184 (fun z187 hz187 => ?_)
          refine h_zgt (tg := 17) (pc' := 13) rfl rfl rfl rfl (fun c188 => absurd c188 (by omega)) (fun c188 => ?_)
          replace c188 := (h_lcr hz187).2.2.1 c188
          clear hz187
          refine h_iconst (pc' := 14) (x := (Int32.ofInt 1)) rfl rfl rfl ?_
          refine h_goto (pc' := 18) rfl rfl ?_
          refine h_zret rfl rfl ci_1 (by omega) (h_Kv ?_)
          refine h_zeq (tg := 38) (pc' := 34) rfl rfl rfl ci_1 (fun c189 => absurd c189 (by omega)) (fun c189 => ?_)
          refine h_iconst (pc' := 35) (x := (Int32.ofInt 1)) rfl rfl rfl ?_
          refine h_goto (pc' := 39) rfl rfl ?_
          refine h_zret rfl rfl ci_1 (by omega) (h_Kv ?_)
          refine h_zeq (tg := 44) (pc' := 9) rfl rfl rfl ci_1 (fun c190 => absurd c190 (by omega)) (fun c190 => ?_)
          refine h_bipush (pc' := 11) (x := (Int32.ofInt 10)) rfl rfl cb_10 ?_
          refine h_aload_n (pc' := 12) rfl rfl rfl ?_
          refine h_getR (pc' := 15) rfl rfl rfl rfl rfl ?_
          refine h_iload_n (pc' := 16) rfl rfl rfl ?_
          refine h_calls (pc' := 19) (M := [(0, .int z170)]) rfl rfl rfl rfl rfl rfl ?_
          refine h_iload_n (pc' := 1) rfl rfl rfl ?_
          refine h_zne (tg := 9) (pc' := 4) rfl rfl rfl hz170 (fun c191 => ?_) (fun c191 => absurd c191 (by omega))
          refine h_bipush (pc' := 11) (x := (Int32.ofInt 19)) rfl rfl cb_19 ?_
          refine h_iret rfl rfl (h_Kv ?_)
          refine h_iconst (pc' := 20) (x := (Int32.ofInt 2)) rfl rfl rfl ?_
          refine h_iload_n (pc' := 21) rfl rfl rfl ?_
          refine h_imul (pc' := 22) rfl rfl ci_2 hz172 rfl (by have g0 := h_rgv hz172; omega) (by have g0 := h_rgv hz172; omega) (fun z192 hz192 => ?_)
          refine h_iadd (pc' := 23) rfl rfl ci_19 hz192 rfl (by omega) (by omega) (fun z193 hz193 => ?_)
          refine h_iald (pc' := 24) (v := s0 99 (19 + (2 * (s0 0 (b3 + 2))))) rfl rfl rfl hz193 (by omega) (by omega) rfl (fun z194 hz194 => ?_)
          have tz194 := ty_99_4 I0 (19 + (2 * (s0 0 (b3 + 2)))) (by omega)
          refine h_imul (pc' := 25) rfl rfl ci_10 hz194 rfl (by omega) (by omega) (fun z195 hz195 => ?_)
          refine h_aload_n (pc' := 26) rfl rfl rfl ?_
          refine h_getR (pc' := 29) rfl rfl rfl rfl rfl ?_
          refine h_iload_n (pc' := 30) rfl rfl rfl ?_
          refine h_calls (pc' := 33) (M := [(0, .int z170)]) rfl rfl rfl rfl rfl rfl ?_
          refine h_iload_n (pc' := 1) rfl rfl rfl ?_
          refine h_zne (tg := 9) (pc' := 4) rfl rfl rfl hz170 (fun c196 => ?_) (fun c196 => absurd c196 (by omega))
          refine h_bipush (pc' := 11) (x := (Int32.ofInt 19)) rfl rfl cb_19 ?_
          refine h_iret rfl rfl (h_Kv ?_)
          refine h_iconst (pc' := 34) (x := (Int32.ofInt 2)) rfl rfl rfl ?_
          refine h_iload_n (pc' := 35) rfl rfl rfl ?_
          refine h_imul (pc' := 36) rfl rfl ci_2 hz172 rfl (by have g0 := h_rgv hz172; omega) (by have g0 := h_rgv hz172; omega) (fun z197 hz197 => ?_)
          refine h_iadd (pc' := 37) rfl rfl ci_19 hz197 rfl (by omega) (by omega) (fun z198 hz198 => ?_)
          refine h_iconst (pc' := 38) (x := (Int32.ofInt 1)) rfl rfl rfl ?_
          refine h_iadd (pc' := 39) rfl rfl hz198 ci_1 rfl (by omega) (by omega) (fun z199 hz199 => ?_)
          refine h_iald (pc' := 40) (v := s0 99 ((19 + (2 * (s0 0 (b3 + 2)))) + 1)) rfl rfl rfl hz199 (by omega) (by omega) rfl (fun z200 hz200 => ?_)
          have tz200 := ty_99_4 I0 ((19 + (2 * (s0 0 (b3 + 2)))) + 1) (by omega)
          refine h_iadd (pc' := 41) rfl rfl hz195 hz200 rfl (by omega) (by omega) (fun z201 hz201 => ?_)
          refine h_goto (pc' := 45) rfl rfl ?_
          refine h_iret rfl rfl (h_Kv ?_)
          refine h_ceq (tg := 1441) (pc' := 404) rfl rfl rfl hz168 hz201 (fun c202 => ?_) (fun c202 => ?_)
          · exact kk _ I0 (by first | exact d_tape.le j0 (Int.le_antisymm (by omega) (by omega)) (by omega) (fun j => rfl) (fun j => rfl) | (exfalso; omega)) (Int.le_antisymm (by omega) (by omega)) j2
          · refine h_iconst (pc' := 405) (x := (Int32.ofInt 0)) rfl rfl rfl ?_
            first | have ga := j2.mr (j := s0 0 (b3 + 2)) (by omega) (by omega) | skip
            first | have gb := j2.fe (j := s0 0 (b3 + 2)) (by omega) (by omega) | skip
            exfalso
            omega
set_option maxHeartbeats 100000000 in
theorem g_case_406 {ns : Nat} (hns : ns ≤ 320) (s0 : h_S) (I0 : h_I s0) (j0 : d_tape s0 s0) (j1 : s0 64 4 = s0 98 16) (j2 : c_R false s0) (y3 : Int32) (b3 : Int) (hy3 : y3.toInt = b3) (hr : 0 ≤ b3 ∧ b3 + 5 ≤ ns) {Q : Option Value → h_S → Prop} (kk : ∀ τ, h_I τ → (d_tape τ τ) → (τ 64 4 = τ 98 16) → (c_R false τ) → h_T g_P (g_Y ns) 225 1441 [(0, .ref 0), (1, .ref 9), (2, .ref 98), (3, .int y3)] [] τ Q) : h_T g_P (g_Y ns) 225 406 [(0, .ref 0), (1, .ref 9), (2, .ref 98), (3, .int y3)] [] s0 Q := by
  have F0_ : h_F (fun _ _ => true) s0 s0 := h_F.rf
  have j0_ := j0.2
  have i0 := tf_64_1 I0
  have i1 := tf_98_11 I0
  have i2 := tf_64_4 I0
  have i3 := tf_98_16 I0
  have i4 := tf_63_2 I0
  have i5 := tf_10_8 I0
  have i6 := tf_98_1 I0
  have i7 := tf_10_9 I0
  have i8 := tf_98_2 I0
  have i9 := tf_10_10 I0
  have i11 := tf_13_2 I0
  have i13 := tf_16_2 I0
  have j2_ := j2.sz
  have j2i := j2.2.2.1
  have y43 := ty_99_10 I0 43 (by omega)
  have y18 := ty_99_3 I0 18 (by omega)
  have y25 := ty_99_5 I0 25 (by omega)
  have y62_0 := ty_62 I0 0
  have y62_1 := ty_62 I0 1
  have y110_0 := ty_110 I0 0
  have y110_1 := ty_110 I0 1
  refine h_aload_n (pc' := 407) rfl rfl rfl ?_
  refine h_aload_n (pc' := 408) rfl rfl rfl ?_
  refine h_iload_n (pc' := 409) rfl rfl rfl ?_
  refine h_iconst (pc' := 410) (x := (Int32.ofInt 1)) rfl rfl rfl ?_
  refine h_iadd (pc' := 411) rfl rfl hy3 ci_1 rfl (by omega) (by omega) (fun z1 hz1 => ?_)
  refine h_iald (pc' := 412) (v := s0 0 (b3 + 1)) rfl rfl rfl hz1 (by omega) (by omega) rfl (fun z2 hz2 => ?_)
  have tz2 := h_rgv hz2
  refine h_call (sp := false) (pc' := 415) (M := [(0, .ref 9), (1, .int z2)]) rfl rfl rfl rfl rfl rfl rfl rfl ?_
  refine w_90_9 _ I0 z2 _ hz2 (fun r3 br3 hr3 s4 Is4 Gs4 tr3 => h_Kv ?_)
  have Zs4 : ∀ i, s4 0 i = s0 0 i := fun i => (Gs4 0 i rfl).trans rfl
  have Fs4 : h_F (fun _ _ => true) s4 s0 := fun _ _ h => by cases h
  have es4_0 : s4 64 1 = s0 64 1 := (Gs4 64 1 rfl).trans rfl
  have es4_1 : s4 98 11 = s0 98 11 := (Gs4 98 11 rfl).trans rfl
  have es4_2 : s4 64 4 = s0 64 4 := (Gs4 64 4 rfl).trans rfl
  have es4_3 : s4 98 16 = s0 98 16 := (Gs4 98 16 rfl).trans rfl
  have es4_4 : s4 63 2 = s0 63 2 := (Gs4 63 2 rfl).trans rfl
  have es4_5 : s4 10 8 = s0 10 8 := (Gs4 10 8 rfl).trans rfl
  have es4_6 : s4 98 1 = s0 98 1 := (Gs4 98 1 rfl).trans rfl
  have es4_7 : s4 10 9 = s0 10 9 := (Gs4 10 9 rfl).trans rfl
  have es4_8 : s4 98 2 = s0 98 2 := (Gs4 98 2 rfl).trans rfl
  have es4_9 : s4 10 10 = s0 10 10 := (Gs4 10 10 rfl).trans rfl
  have es4_10 : s4 99 43 = s0 99 43 := (Gs4 99 43 rfl).trans rfl
  have es4_11 : s4 13 2 = s0 13 2 := (Gs4 13 2 rfl).trans rfl
  have es4_12 : s4 99 18 = s0 99 18 := (Gs4 99 18 rfl).trans rfl
  have es4_13 : s4 16 2 = s0 16 2 := (Gs4 16 2 rfl).trans rfl
  have es4_14 : s4 99 25 = s0 99 25 := (Gs4 99 25 rfl).trans rfl
  have es4_15 : s4 62 0 = s0 62 0 := (Gs4 62 0 rfl).trans rfl
  have es4_16 : s4 110 0 = s0 110 0 := (Gs4 110 0 rfl).trans rfl
  have es4_17 : s4 62 1 = s0 62 1 := (Gs4 62 1 rfl).trans rfl
  have es4_18 : s4 110 1 = s0 110 1 := (Gs4 110 1 rfl).trans rfl
  refine h_pop (pc' := 416) rfl rfl rfl ?_
  refine h_aload_n (pc' := 417) rfl rfl rfl ?_
  refine h_aload_n (pc' := 418) rfl rfl rfl ?_
  refine h_iload_n (pc' := 419) rfl rfl rfl ?_
  refine h_iconst (pc' := 420) (x := (Int32.ofInt 1)) rfl rfl rfl ?_
  refine h_iadd (pc' := 421) rfl rfl hy3 ci_1 rfl (by omega) (by omega) (fun z5 hz5 => ?_)
  refine h_iald (pc' := 422) (v := s0 0 (b3 + 1)) rfl rfl rfl hz5 (by omega) (by omega) (Zs4 _) (fun z6 hz6 => ?_)
  have tz6 := h_rgv hz6
  refine h_call (sp := false) (pc' := 425) (M := [(0, .ref 98), (1, .int z6)]) rfl rfl rfl rfl rfl rfl rfl rfl ?_
  refine w_174_98 _ Is4 z6 _ hz6 (fun r7 br7 hr7 s8 Is8 Gs8 tr7 => h_Kv ?_)
  have Zs8 : ∀ i, s8 0 i = s0 0 i := fun i => (Gs8 0 i rfl).trans (Zs4 i)
  have Fs8 : h_F (fun _ _ => true) s8 s0 := fun _ _ h => by cases h
  have es8_0 : s8 64 1 = s0 64 1 := (Gs8 64 1 rfl).trans es4_0
  have es8_1 : s8 98 11 = s0 98 11 := (Gs8 98 11 rfl).trans es4_1
  have es8_2 : s8 64 4 = s0 64 4 := (Gs8 64 4 rfl).trans es4_2
  have es8_3 : s8 98 16 = s0 98 16 := (Gs8 98 16 rfl).trans es4_3
  have es8_4 : s8 63 2 = s0 63 2 := (Gs8 63 2 rfl).trans es4_4
  have es8_5 : s8 10 8 = s0 10 8 := (Gs8 10 8 rfl).trans es4_5
  have es8_6 : s8 98 1 = s0 98 1 := (Gs8 98 1 rfl).trans es4_6
  have es8_7 : s8 10 9 = s0 10 9 := (Gs8 10 9 rfl).trans es4_7
  have es8_8 : s8 98 2 = s0 98 2 := (Gs8 98 2 rfl).trans es4_8
  have es8_9 : s8 10 10 = s0 10 10 := (Gs8 10 10 rfl).trans es4_9
  have es8_10 : s8 99 43 = s0 99 43 := (Gs8 99 43 rfl).trans es4_10
  have es8_11 : s8 13 2 = s0 13 2 := (Gs8 13 2 rfl).trans es4_11
  have es8_12 : s8 99 18 = s0 99 18 := (Gs8 99 18 rfl).trans es4_12
  have es8_13 : s8 16 2 = s0 16 2 := (Gs8 16 2 rfl).trans es4_13
  have es8_14 : s8 99 25 = s0 99 25 := (Gs8 99 25 rfl).trans es4_14
  have es8_15 : s8 62 0 = s0 62 0 := (Gs8 62 0 rfl).trans es4_15
  have es8_16 : s8 110 0 = s0 110 0 := (Gs8 110 0 rfl).trans es4_16
  have es8_17 : s8 62 1 = s0 62 1 := (Gs8 62 1 rfl).trans es4_17
  have es8_18 : s8 110 1 = s0 110 1 := (Gs8 110 1 rfl).trans es4_18
  clear es4_0 es4_1 es4_10 es4_11 es4_12 es4_13 es4_14 es4_15 es4_16 es4_17 es4_18 es4_2 es4_3 es4_4 es4_5 es4_6 es4_7 es4_8 es4_9
  refine h_pop (pc' := 426) rfl rfl rfl ?_
  refine h_goto (pc' := 1441) rfl rfl ?_
  exact kk _ Is8 (by first | exact d_tape.le j0 (Int.le_antisymm (by omega) (by omega)) (by omega) (fun j => (Gs8 65 j rfl).trans ((Gs4 65 j rfl))) (fun j => (Gs8 102 j rfl).trans ((Gs4 102 j rfl))) | (exfalso; omega)) (Int.le_antisymm (by omega) (by omega)) (c_R.fr (c_R.fr j2 I0 Gs4 rfl) Is4 Gs8 rfl)
set_option maxHeartbeats 100000000 in
theorem g_case_429 {ns : Nat} (hns : ns ≤ 320) (s0 : h_S) (I0 : h_I s0) (j0 : d_tape s0 s0) (j1 : s0 64 4 = s0 98 16) (j2 : c_R false s0) (y3 : Int32) (b3 : Int) (hy3 : y3.toInt = b3) (hr : 0 ≤ b3 ∧ b3 + 5 ≤ ns) {Q : Option Value → h_S → Prop} (kk : ∀ τ, h_I τ → (d_tape τ τ) → (τ 64 4 = τ 98 16) → (c_R false τ) → h_T g_P (g_Y ns) 225 1441 [(0, .ref 0), (1, .ref 9), (2, .ref 98), (3, .int y3)] [] τ Q) : h_T g_P (g_Y ns) 225 429 [(0, .ref 0), (1, .ref 9), (2, .ref 98), (3, .int y3)] [] s0 Q := by
  have F0_ : h_F (fun _ _ => true) s0 s0 := h_F.rf
  have j0_ := j0.2
  have i0 := tf_64_1 I0
  have i1 := tf_98_11 I0
  have i2 := tf_64_4 I0
  have i3 := tf_98_16 I0
  have i4 := tf_63_2 I0
  have i5 := tf_10_8 I0
  have i6 := tf_98_1 I0
  have i7 := tf_10_9 I0
  have i8 := tf_98_2 I0
  have i9 := tf_10_10 I0
  have i11 := tf_13_2 I0
  have i13 := tf_16_2 I0
  have j2_ := j2.sz
  have j2i := j2.2.2.1
  have y43 := ty_99_10 I0 43 (by omega)
  have y18 := ty_99_3 I0 18 (by omega)
  have y25 := ty_99_5 I0 25 (by omega)
  have y62_0 := ty_62 I0 0
  have y62_1 := ty_62 I0 1
  have y110_0 := ty_110 I0 0
  have y110_1 := ty_110 I0 1
  refine h_aload_n (pc' := 430) rfl rfl rfl ?_
  refine h_aload_n (pc' := 431) rfl rfl rfl ?_
  refine h_iload_n (pc' := 432) rfl rfl rfl ?_
  refine h_iconst (pc' := 433) (x := (Int32.ofInt 1)) rfl rfl rfl ?_
  refine h_iadd (pc' := 434) rfl rfl hy3 ci_1 rfl (by omega) (by omega) (fun z1 hz1 => ?_)
  refine h_iald (pc' := 435) (v := s0 0 (b3 + 1)) rfl rfl rfl hz1 (by omega) (by omega) rfl (fun z2 hz2 => ?_)
  have tz2 := h_rgv hz2
  refine h_aload_n (pc' := 436) rfl rfl rfl ?_
  refine h_iload_n (pc' := 437) rfl rfl rfl ?_
  refine h_iconst (pc' := 438) (x := (Int32.ofInt 2)) rfl rfl rfl ?_
  refine h_iadd (pc' := 439) rfl rfl hy3 ci_2 rfl (by omega) (by omega) (fun z3 hz3 => ?_)
  refine h_iald (pc' := 440) (v := s0 0 (b3 + 2)) rfl rfl rfl hz3 (by omega) (by omega) rfl (fun z4 hz4 => ?_)
  have tz4 := h_rgv hz4
  refine h_call (sp := false) (pc' := 443) (M := [(0, .ref 9), (1, .int z2), (2, .int z4)]) rfl rfl rfl rfl rfl rfl rfl rfl ?_
  refine w_91_9 _ I0 z2 _ hz2 z4 _ hz4 (fun r5 br5 hr5 s6 Is6 Gs6 tr5 => h_Kv ?_)
  have Zs6 : ∀ i, s6 0 i = s0 0 i := fun i => (Gs6 0 i rfl).trans rfl
  have Fs6 : h_F (fun _ _ => true) s6 s0 := fun _ _ h => by cases h
  have es6_0 : s6 64 1 = s0 64 1 := (Gs6 64 1 rfl).trans rfl
  have es6_1 : s6 98 11 = s0 98 11 := (Gs6 98 11 rfl).trans rfl
  have es6_2 : s6 64 4 = s0 64 4 := (Gs6 64 4 rfl).trans rfl
  have es6_3 : s6 98 16 = s0 98 16 := (Gs6 98 16 rfl).trans rfl
  have es6_4 : s6 63 2 = s0 63 2 := (Gs6 63 2 rfl).trans rfl
  have es6_5 : s6 10 8 = s0 10 8 := (Gs6 10 8 rfl).trans rfl
  have es6_6 : s6 98 1 = s0 98 1 := (Gs6 98 1 rfl).trans rfl
  have es6_7 : s6 10 9 = s0 10 9 := (Gs6 10 9 rfl).trans rfl
  have es6_8 : s6 98 2 = s0 98 2 := (Gs6 98 2 rfl).trans rfl
  have es6_9 : s6 10 10 = s0 10 10 := (Gs6 10 10 rfl).trans rfl
  have es6_10 : s6 99 43 = s0 99 43 := (Gs6 99 43 rfl).trans rfl
  have es6_11 : s6 13 2 = s0 13 2 := (Gs6 13 2 rfl).trans rfl
  have es6_12 : s6 99 18 = s0 99 18 := (Gs6 99 18 rfl).trans rfl
  have es6_13 : s6 16 2 = s0 16 2 := (Gs6 16 2 rfl).trans rfl
  have es6_14 : s6 99 25 = s0 99 25 := (Gs6 99 25 rfl).trans rfl
  have es6_15 : s6 62 0 = s0 62 0 := (Gs6 62 0 rfl).trans rfl
  have es6_16 : s6 110 0 = s0 110 0 := (Gs6 110 0 rfl).trans rfl
  have es6_17 : s6 62 1 = s0 62 1 := (Gs6 62 1 rfl).trans rfl
  have es6_18 : s6 110 1 = s0 110 1 := (Gs6 110 1 rfl).trans rfl
  refine h_pop (pc' := 444) rfl rfl rfl ?_
  refine h_aload_n (pc' := 445) rfl rfl rfl ?_
  refine h_aload_n (pc' := 446) rfl rfl rfl ?_
  refine h_iload_n (pc' := 447) rfl rfl rfl ?_
  refine h_iconst (pc' := 448) (x := (Int32.ofInt 1)) rfl rfl rfl ?_
  refine h_iadd (pc' := 449) rfl rfl hy3 ci_1 rfl (by omega) (by omega) (fun z7 hz7 => ?_)
  refine h_iald (pc' := 450) (v := s0 0 (b3 + 1)) rfl rfl rfl hz7 (by omega) (by omega) (Zs6 _) (fun z8 hz8 => ?_)
  have tz8 := h_rgv hz8
  refine h_aload_n (pc' := 451) rfl rfl rfl ?_
  refine h_iload_n (pc' := 452) rfl rfl rfl ?_
  refine h_iconst (pc' := 453) (x := (Int32.ofInt 2)) rfl rfl rfl ?_
  refine h_iadd (pc' := 454) rfl rfl hy3 ci_2 rfl (by omega) (by omega) (fun z9 hz9 => ?_)
  refine h_iald (pc' := 455) (v := s0 0 (b3 + 2)) rfl rfl rfl hz9 (by omega) (by omega) (Zs6 _) (fun z10 hz10 => ?_)
  have tz10 := h_rgv hz10
  refine h_call (sp := false) (pc' := 458) (M := [(0, .ref 98), (1, .int z8), (2, .int z10)]) rfl rfl rfl rfl rfl rfl rfl rfl ?_
  refine w_175_98 _ Is6 z8 _ hz8 z10 _ hz10 (fun r11 br11 hr11 s12 Is12 Gs12 tr11 => h_Kv ?_)
  have Zs12 : ∀ i, s12 0 i = s0 0 i := fun i => (Gs12 0 i rfl).trans (Zs6 i)
  have Fs12 : h_F (fun _ _ => true) s12 s0 := fun _ _ h => by cases h
  have es12_0 : s12 64 1 = s0 64 1 := (Gs12 64 1 rfl).trans es6_0
  have es12_1 : s12 98 11 = s0 98 11 := (Gs12 98 11 rfl).trans es6_1
  have es12_2 : s12 64 4 = s0 64 4 := (Gs12 64 4 rfl).trans es6_2
  have es12_3 : s12 98 16 = s0 98 16 := (Gs12 98 16 rfl).trans es6_3
  have es12_4 : s12 63 2 = s0 63 2 := (Gs12 63 2 rfl).trans es6_4
  have es12_5 : s12 10 8 = s0 10 8 := (Gs12 10 8 rfl).trans es6_5
  have es12_6 : s12 98 1 = s0 98 1 := (Gs12 98 1 rfl).trans es6_6
  have es12_7 : s12 10 9 = s0 10 9 := (Gs12 10 9 rfl).trans es6_7
  have es12_8 : s12 98 2 = s0 98 2 := (Gs12 98 2 rfl).trans es6_8
  have es12_9 : s12 10 10 = s0 10 10 := (Gs12 10 10 rfl).trans es6_9
  have es12_10 : s12 99 43 = s0 99 43 := (Gs12 99 43 rfl).trans es6_10
  have es12_11 : s12 13 2 = s0 13 2 := (Gs12 13 2 rfl).trans es6_11
  have es12_12 : s12 99 18 = s0 99 18 := (Gs12 99 18 rfl).trans es6_12
  have es12_13 : s12 16 2 = s0 16 2 := (Gs12 16 2 rfl).trans es6_13
  have es12_14 : s12 99 25 = s0 99 25 := (Gs12 99 25 rfl).trans es6_14
  have es12_15 : s12 62 0 = s0 62 0 := (Gs12 62 0 rfl).trans es6_15
  have es12_16 : s12 110 0 = s0 110 0 := (Gs12 110 0 rfl).trans es6_16
  have es12_17 : s12 62 1 = s0 62 1 := (Gs12 62 1 rfl).trans es6_17
  have es12_18 : s12 110 1 = s0 110 1 := (Gs12 110 1 rfl).trans es6_18
  clear es6_0 es6_1 es6_10 es6_11 es6_12 es6_13 es6_14 es6_15 es6_16 es6_17 es6_18 es6_2 es6_3 es6_4 es6_5 es6_6 es6_7 es6_8 es6_9
  refine h_pop (pc' := 459) rfl rfl rfl ?_
  refine h_goto (pc' := 1441) rfl rfl ?_
  exact kk _ Is12 (by first | exact d_tape.le j0 (Int.le_antisymm (by omega) (by omega)) (by omega) (fun j => (Gs12 65 j rfl).trans ((Gs6 65 j rfl))) (fun j => (Gs12 102 j rfl).trans ((Gs6 102 j rfl))) | (exfalso; omega)) (Int.le_antisymm (by omega) (by omega)) (c_R.fr (c_R.fr j2 I0 Gs6 rfl) Is6 Gs12 rfl)
set_option maxHeartbeats 100000000 in
theorem g_case_462 {ns : Nat} (hns : ns ≤ 320) (s0 : h_S) (I0 : h_I s0) (j0 : d_tape s0 s0) (j1 : s0 64 4 = s0 98 16) (j2 : c_R false s0) (y3 : Int32) (b3 : Int) (hy3 : y3.toInt = b3) (hr : 0 ≤ b3 ∧ b3 + 5 ≤ ns) {Q : Option Value → h_S → Prop} (kk : ∀ τ, h_I τ → (d_tape τ τ) → (τ 64 4 = τ 98 16) → (c_R false τ) → h_T g_P (g_Y ns) 225 1441 [(0, .ref 0), (1, .ref 9), (2, .ref 98), (3, .int y3)] [] τ Q) : h_T g_P (g_Y ns) 225 462 [(0, .ref 0), (1, .ref 9), (2, .ref 98), (3, .int y3)] [] s0 Q := by
  have F0_ : h_F (fun _ _ => true) s0 s0 := h_F.rf
  have j0_ := j0.2
  have i0 := tf_64_1 I0
  have i1 := tf_98_11 I0
  have i2 := tf_64_4 I0
  have i3 := tf_98_16 I0
  have i4 := tf_63_2 I0
  have i5 := tf_10_8 I0
  have i6 := tf_98_1 I0
  have i7 := tf_10_9 I0
  have i8 := tf_98_2 I0
  have i9 := tf_10_10 I0
  have i11 := tf_13_2 I0
  have i13 := tf_16_2 I0
  have j2_ := j2.sz
  have j2i := j2.2.2.1
  have y43 := ty_99_10 I0 43 (by omega)
  have y18 := ty_99_3 I0 18 (by omega)
  have y25 := ty_99_5 I0 25 (by omega)
  have y62_0 := ty_62 I0 0
  have y62_1 := ty_62 I0 1
  have y110_0 := ty_110 I0 0
  have y110_1 := ty_110 I0 1
  refine h_aload_n (pc' := 463) rfl rfl rfl ?_
  refine h_aload_n (pc' := 464) rfl rfl rfl ?_
  refine h_iload_n (pc' := 465) rfl rfl rfl ?_
  refine h_iconst (pc' := 466) (x := (Int32.ofInt 1)) rfl rfl rfl ?_
  refine h_iadd (pc' := 467) rfl rfl hy3 ci_1 rfl (by omega) (by omega) (fun z1 hz1 => ?_)
  refine h_iald (pc' := 468) (v := s0 0 (b3 + 1)) rfl rfl rfl hz1 (by omega) (by omega) rfl (fun z2 hz2 => ?_)
  have tz2 := h_rgv hz2
  refine h_aload_n (pc' := 469) rfl rfl rfl ?_
  refine h_iload_n (pc' := 470) rfl rfl rfl ?_
  refine h_iconst (pc' := 471) (x := (Int32.ofInt 2)) rfl rfl rfl ?_
  refine h_iadd (pc' := 472) rfl rfl hy3 ci_2 rfl (by omega) (by omega) (fun z3 hz3 => ?_)
  refine h_iald (pc' := 473) (v := s0 0 (b3 + 2)) rfl rfl rfl hz3 (by omega) (by omega) rfl (fun z4 hz4 => ?_)
  have tz4 := h_rgv hz4
  refine h_call (sp := false) (pc' := 476) (M := [(0, .ref 9), (1, .int z2), (2, .int z4)]) rfl rfl rfl rfl rfl rfl rfl rfl ?_
  refine w_92_9 _ I0 z2 _ hz2 z4 _ hz4 (fun r5 br5 hr5 s6 Is6 Gs6 tr5 => h_Kv ?_)
  have Zs6 : ∀ i, s6 0 i = s0 0 i := fun i => (Gs6 0 i rfl).trans rfl
  have Fs6 : h_F (fun _ _ => true) s6 s0 := fun _ _ h => by cases h
  have es6_0 : s6 64 1 = s0 64 1 := (Gs6 64 1 rfl).trans rfl
  have es6_1 : s6 98 11 = s0 98 11 := (Gs6 98 11 rfl).trans rfl
  have es6_2 : s6 64 4 = s0 64 4 := (Gs6 64 4 rfl).trans rfl
  have es6_3 : s6 98 16 = s0 98 16 := (Gs6 98 16 rfl).trans rfl
  have es6_4 : s6 63 2 = s0 63 2 := (Gs6 63 2 rfl).trans rfl
  have es6_5 : s6 10 8 = s0 10 8 := (Gs6 10 8 rfl).trans rfl
  have es6_6 : s6 98 1 = s0 98 1 := (Gs6 98 1 rfl).trans rfl
  have es6_7 : s6 10 9 = s0 10 9 := (Gs6 10 9 rfl).trans rfl
  have es6_8 : s6 98 2 = s0 98 2 := (Gs6 98 2 rfl).trans rfl
  have es6_9 : s6 10 10 = s0 10 10 := (Gs6 10 10 rfl).trans rfl
  have es6_10 : s6 99 43 = s0 99 43 := (Gs6 99 43 rfl).trans rfl
  have es6_11 : s6 13 2 = s0 13 2 := (Gs6 13 2 rfl).trans rfl
  have es6_12 : s6 99 18 = s0 99 18 := (Gs6 99 18 rfl).trans rfl
  have es6_13 : s6 16 2 = s0 16 2 := (Gs6 16 2 rfl).trans rfl
  have es6_14 : s6 99 25 = s0 99 25 := (Gs6 99 25 rfl).trans rfl
  have es6_15 : s6 62 0 = s0 62 0 := (Gs6 62 0 rfl).trans rfl
  have es6_16 : s6 110 0 = s0 110 0 := (Gs6 110 0 rfl).trans rfl
  have es6_17 : s6 62 1 = s0 62 1 := (Gs6 62 1 rfl).trans rfl
  have es6_18 : s6 110 1 = s0 110 1 := (Gs6 110 1 rfl).trans rfl
  refine h_pop (pc' := 477) rfl rfl rfl ?_
  refine h_aload_n (pc' := 478) rfl rfl rfl ?_
  refine h_aload_n (pc' := 479) rfl rfl rfl ?_
  refine h_iload_n (pc' := 480) rfl rfl rfl ?_
  refine h_iconst (pc' := 481) (x := (Int32.ofInt 1)) rfl rfl rfl ?_
  refine h_iadd (pc' := 482) rfl rfl hy3 ci_1 rfl (by omega) (by omega) (fun z7 hz7 => ?_)
  refine h_iald (pc' := 483) (v := s0 0 (b3 + 1)) rfl rfl rfl hz7 (by omega) (by omega) (Zs6 _) (fun z8 hz8 => ?_)
  have tz8 := h_rgv hz8
  refine h_aload_n (pc' := 484) rfl rfl rfl ?_
  refine h_iload_n (pc' := 485) rfl rfl rfl ?_
  refine h_iconst (pc' := 486) (x := (Int32.ofInt 2)) rfl rfl rfl ?_
  refine h_iadd (pc' := 487) rfl rfl hy3 ci_2 rfl (by omega) (by omega) (fun z9 hz9 => ?_)
  refine h_iald (pc' := 488) (v := s0 0 (b3 + 2)) rfl rfl rfl hz9 (by omega) (by omega) (Zs6 _) (fun z10 hz10 => ?_)
  have tz10 := h_rgv hz10
  refine h_call (sp := false) (pc' := 491) (M := [(0, .ref 98), (1, .int z8), (2, .int z10)]) rfl rfl rfl rfl rfl rfl rfl rfl ?_
  refine w_177_98 _ Is6 z8 _ hz8 z10 _ hz10 (fun r11 br11 hr11 s12 Is12 Gs12 tr11 => h_Kv ?_)
  have Zs12 : ∀ i, s12 0 i = s0 0 i := fun i => (Gs12 0 i rfl).trans (Zs6 i)
  have Fs12 : h_F (fun _ _ => true) s12 s0 := fun _ _ h => by cases h
  have es12_0 : s12 64 1 = s0 64 1 := (Gs12 64 1 rfl).trans es6_0
  have es12_1 : s12 98 11 = s0 98 11 := (Gs12 98 11 rfl).trans es6_1
  have es12_2 : s12 64 4 = s0 64 4 := (Gs12 64 4 rfl).trans es6_2
  have es12_3 : s12 98 16 = s0 98 16 := (Gs12 98 16 rfl).trans es6_3
  have es12_4 : s12 63 2 = s0 63 2 := (Gs12 63 2 rfl).trans es6_4
  have es12_5 : s12 10 8 = s0 10 8 := (Gs12 10 8 rfl).trans es6_5
  have es12_6 : s12 98 1 = s0 98 1 := (Gs12 98 1 rfl).trans es6_6
  have es12_7 : s12 10 9 = s0 10 9 := (Gs12 10 9 rfl).trans es6_7
  have es12_8 : s12 98 2 = s0 98 2 := (Gs12 98 2 rfl).trans es6_8
  have es12_9 : s12 10 10 = s0 10 10 := (Gs12 10 10 rfl).trans es6_9
  have es12_10 : s12 99 43 = s0 99 43 := (Gs12 99 43 rfl).trans es6_10
  have es12_11 : s12 13 2 = s0 13 2 := (Gs12 13 2 rfl).trans es6_11
  have es12_12 : s12 99 18 = s0 99 18 := (Gs12 99 18 rfl).trans es6_12
  have es12_13 : s12 16 2 = s0 16 2 := (Gs12 16 2 rfl).trans es6_13
  have es12_14 : s12 99 25 = s0 99 25 := (Gs12 99 25 rfl).trans es6_14
  have es12_15 : s12 62 0 = s0 62 0 := (Gs12 62 0 rfl).trans es6_15
  have es12_16 : s12 110 0 = s0 110 0 := (Gs12 110 0 rfl).trans es6_16
  have es12_17 : s12 62 1 = s0 62 1 := (Gs12 62 1 rfl).trans es6_17
  have es12_18 : s12 110 1 = s0 110 1 := (Gs12 110 1 rfl).trans es6_18
  clear es6_0 es6_1 es6_10 es6_11 es6_12 es6_13 es6_14 es6_15 es6_16 es6_17 es6_18 es6_2 es6_3 es6_4 es6_5 es6_6 es6_7 es6_8 es6_9
  refine h_pop (pc' := 492) rfl rfl rfl ?_
  refine h_goto (pc' := 1441) rfl rfl ?_
  exact kk _ Is12 (by first | exact d_tape.le j0 (Int.le_antisymm (by omega) (by omega)) (by omega) (fun j => (Gs12 65 j rfl).trans ((Gs6 65 j rfl))) (fun j => (Gs12 102 j rfl).trans ((Gs6 102 j rfl))) | (exfalso; omega)) (Int.le_antisymm (by omega) (by omega)) (c_R.fr (c_R.fr j2 I0 Gs6 rfl) Is6 Gs12 rfl)
set_option maxHeartbeats 100000000 in
theorem g_case_495 {ns : Nat} (hns : ns ≤ 320) (s0 : h_S) (I0 : h_I s0) (j0 : d_tape s0 s0) (j1 : s0 64 4 = s0 98 16) (j2 : c_R false s0) (y3 : Int32) (b3 : Int) (hy3 : y3.toInt = b3) (hr : 0 ≤ b3 ∧ b3 + 5 ≤ ns) {Q : Option Value → h_S → Prop} (kk : ∀ τ, h_I τ → (d_tape τ τ) → (τ 64 4 = τ 98 16) → (c_R false τ) → h_T g_P (g_Y ns) 225 1441 [(0, .ref 0), (1, .ref 9), (2, .ref 98), (3, .int y3)] [] τ Q) : h_T g_P (g_Y ns) 225 495 [(0, .ref 0), (1, .ref 9), (2, .ref 98), (3, .int y3)] [] s0 Q := by
  have F0_ : h_F (fun _ _ => true) s0 s0 := h_F.rf
  have j0_ := j0.2
  have i0 := tf_64_1 I0
  have i1 := tf_98_11 I0
  have i2 := tf_64_4 I0
  have i3 := tf_98_16 I0
  have i4 := tf_63_2 I0
  have i5 := tf_10_8 I0
  have i6 := tf_98_1 I0
  have i7 := tf_10_9 I0
  have i8 := tf_98_2 I0
  have i9 := tf_10_10 I0
  have i11 := tf_13_2 I0
  have i13 := tf_16_2 I0
  have j2_ := j2.sz
  have j2i := j2.2.2.1
  have y43 := ty_99_10 I0 43 (by omega)
  have y18 := ty_99_3 I0 18 (by omega)
  have y25 := ty_99_5 I0 25 (by omega)
  have y62_0 := ty_62 I0 0
  have y62_1 := ty_62 I0 1
  have y110_0 := ty_110 I0 0
  have y110_1 := ty_110 I0 1
  refine h_aload_n (pc' := 496) rfl rfl rfl ?_
  refine h_aload_n (pc' := 497) rfl rfl rfl ?_
  refine h_iload_n (pc' := 498) rfl rfl rfl ?_
  refine h_iconst (pc' := 499) (x := (Int32.ofInt 1)) rfl rfl rfl ?_
  refine h_iadd (pc' := 500) rfl rfl hy3 ci_1 rfl (by omega) (by omega) (fun z1 hz1 => ?_)
  refine h_iald (pc' := 501) (v := s0 0 (b3 + 1)) rfl rfl rfl hz1 (by omega) (by omega) rfl (fun z2 hz2 => ?_)
  have tz2 := h_rgv hz2
  refine h_aload_n (pc' := 502) rfl rfl rfl ?_
  refine h_iload_n (pc' := 503) rfl rfl rfl ?_
  refine h_iconst (pc' := 504) (x := (Int32.ofInt 2)) rfl rfl rfl ?_
  refine h_iadd (pc' := 505) rfl rfl hy3 ci_2 rfl (by omega) (by omega) (fun z3 hz3 => ?_)
  refine h_iald (pc' := 506) (v := s0 0 (b3 + 2)) rfl rfl rfl hz3 (by omega) (by omega) rfl (fun z4 hz4 => ?_)
  have tz4 := h_rgv hz4
  refine h_aload_n (pc' := 507) rfl rfl rfl ?_
  refine h_iload_n (pc' := 508) rfl rfl rfl ?_
  refine h_iconst (pc' := 509) (x := (Int32.ofInt 3)) rfl rfl rfl ?_
  refine h_iadd (pc' := 510) rfl rfl hy3 ci_3 rfl (by omega) (by omega) (fun z5 hz5 => ?_)
  refine h_iald (pc' := 511) (v := s0 0 (b3 + 3)) rfl rfl rfl hz5 (by omega) (by omega) rfl (fun z6 hz6 => ?_)
  have tz6 := h_rgv hz6
  refine h_call (sp := false) (pc' := 514) (M := [(0, .ref 9), (1, .int z2), (2, .int z4), (3, .int z6)]) rfl rfl rfl rfl rfl rfl rfl rfl ?_
  refine h_aload_n (pc' := 1) rfl rfl rfl ?_
  refine h_getR (pc' := 4) rfl rfl rfl rfl rfl ?_
  refine h_iload_n (pc' := 5) rfl rfl rfl ?_
  refine h_call (sp := false) (pc' := 8) (M := [(0, .ref 10), (1, .int z2)]) rfl rfl rfl rfl rfl rfl rfl rfl ?_
  refine h_iload_n (pc' := 1) rfl rfl rfl ?_
  refine h_zlt (tg := 16) (pc' := 4) rfl rfl rfl hz2 (fun c7 => ?_) (fun c7 => ?_)
  · refine h_iconst (pc' := 17) (x := (Int32.ofInt 0)) rfl rfl rfl ?_
    refine h_zret rfl rfl ci_0 (by omega) (h_Kv ?_)
    refine h_zne (tg := 13) (pc' := 11) rfl rfl rfl ci_0 (fun c8 => absurd (Int.le_antisymm (by omega) (by omega)) c8) (fun c8 => ?_)
    refine h_iconst (pc' := 12) (x := (Int32.ofInt (-1))) rfl rfl rfl ?_
    refine h_iret rfl rfl (h_Kv ?_)
    refine h_pop (pc' := 515) rfl rfl rfl ?_
    refine h_aload_n (pc' := 516) rfl rfl rfl ?_
    refine h_aload_n (pc' := 517) rfl rfl rfl ?_
    refine h_iload_n (pc' := 518) rfl rfl rfl ?_
    refine h_iconst (pc' := 519) (x := (Int32.ofInt 1)) rfl rfl rfl ?_
    refine h_iadd (pc' := 520) rfl rfl hy3 ci_1 rfl (by omega) (by omega) (fun z9 hz9 => ?_)
    refine h_iald (pc' := 521) (v := s0 0 (b3 + 1)) rfl rfl rfl hz9 (by omega) (by omega) rfl (fun z10 hz10 => ?_)
    have tz10 := h_rgv hz10
    refine h_aload_n (pc' := 522) rfl rfl rfl ?_
    refine h_iload_n (pc' := 523) rfl rfl rfl ?_
    refine h_iconst (pc' := 524) (x := (Int32.ofInt 2)) rfl rfl rfl ?_
    refine h_iadd (pc' := 525) rfl rfl hy3 ci_2 rfl (by omega) (by omega) (fun z11 hz11 => ?_)
    refine h_iald (pc' := 526) (v := s0 0 (b3 + 2)) rfl rfl rfl hz11 (by omega) (by omega) rfl (fun z12 hz12 => ?_)
    have tz12 := h_rgv hz12
    refine h_aload_n (pc' := 527) rfl rfl rfl ?_
    refine h_iload_n (pc' := 528) rfl rfl rfl ?_
    refine h_iconst (pc' := 529) (x := (Int32.ofInt 3)) rfl rfl rfl ?_
    refine h_iadd (pc' := 530) rfl rfl hy3 ci_3 rfl (by omega) (by omega) (fun z13 hz13 => ?_)
    refine h_iald (pc' := 531) (v := s0 0 (b3 + 3)) rfl rfl rfl hz13 (by omega) (by omega) rfl (fun z14 hz14 => ?_)
    have tz14 := h_rgv hz14
    refine h_call (sp := false) (pc' := 534) (M := [(0, .ref 98), (1, .int z10), (2, .int z12), (3, .int z14)]) rfl rfl rfl rfl rfl rfl rfl rfl ?_
    refine h_iload_n (pc' := 1) rfl rfl rfl ?_
    refine h_iconst (pc' := 2) (x := (Int32.ofInt 1)) rfl rfl rfl ?_
    refine h_cne (tg := 48) (pc' := 5) rfl rfl rfl hz12 ci_1 (fun c15 => ?_) (fun c15 => ?_)
    · refine h_aload_n (pc' := 49) rfl rfl rfl ?_
      refine h_aload_n (pc' := 50) rfl rfl rfl ?_
      refine h_iload_n (pc' := 51) rfl rfl rfl ?_
      refine h_call (sp := false) (pc' := 54) (M := [(0, .ref 98), (1, .int z10)]) rfl rfl rfl rfl rfl rfl rfl rfl ?_
      refine h_iload_n (pc' := 1) rfl rfl rfl ?_
      refine h_i2l (pc' := 2) rfl rfl hz10 (fun z16 hz16 => ?_)
      refine h_lconst (pc' := 3) (x := (Int64.ofInt 0)) rfl rfl rfl ?_
      refine h_aload_n (pc' := 4) rfl rfl rfl ?_
      refine h_getI (pc' := 7) (v := s0 98 1) rfl rfl rfl rfl rfl rfl (fun z17 hz17 => ?_)
      have tz17 := tf_98_1 I0
      refine h_iconst (pc' := 8) (x := (Int32.ofInt 1)) rfl rfl rfl ?_
      refine h_isub (pc' := 9) rfl rfl hz17 ci_1 rfl (by omega) (by omega) (fun z18 hz18 => ?_)
      refine h_i2l (pc' := 10) rfl rfl hz18 (fun z19 hz19 => ?_)
      refine h_calls (pc' := 13) (M := [(0, .long z16), (2, .long (Int64.ofInt 0)), (4, .long z19)]) rfl rfl rfl rfl rfl rfl ?_
      refine h_lload_n (pc' := 1) rfl rfl rfl ?_
      refine h_lload_n (pc' := 2) rfl rfl rfl ?_
      refine h_lcmp (pc' := 3) rfl rfl hz16 cl_0 (fun z20 hz20 => ?_)
      refine h_zlt (tg := 17) (pc' := 6) rfl rfl rfl rfl (fun c21 => ?_) (fun c21 => absurd c21 (by omega))
      replace c21 := (h_lcr hz20).1 c21
      clear hz20
      refine h_iconst (pc' := 18) (x := (Int32.ofInt 0)) rfl rfl rfl ?_
      refine h_zret rfl rfl ci_0 (by omega) (h_Kv ?_)
      refine h_zret rfl rfl ci_0 (by omega) (h_Kv ?_)
      refine h_zeq (tg := 77) (pc' := 57) rfl rfl rfl ci_0 (fun c22 => ?_) (fun c22 => absurd (Int.le_antisymm (by omega) (by omega)) c22)
      refine h_iconst (pc' := 78) (x := (Int32.ofInt 0)) rfl rfl rfl ?_
      refine h_iload_n (pc' := 79) rfl rfl rfl ?_
      refine h_iload_n (pc' := 80) rfl rfl rfl ?_
      refine h_iconst (pc' := 81) (x := (Int32.ofInt 0)) rfl rfl rfl ?_
      refine h_call (sp := false) (pc' := 84) (M := [(0, .ref 98), (1, .int (Int32.ofInt 0)), (2, .int z10), (3, .int z14), (4, .int (Int32.ofInt 0))]) rfl rfl rfl rfl rfl rfl rfl rfl ?_
      refine h_iload_n (pc' := 1) rfl rfl rfl ?_
      refine h_zne (tg := 6) (pc' := 4) rfl rfl rfl ci_0 (fun c23 => absurd (Int.le_antisymm (by omega) (by omega)) c23) (fun c23 => ?_)
      refine h_iconst (pc' := 5) (x := (Int32.ofInt (-1))) rfl rfl rfl ?_
      refine h_iret rfl rfl (h_Kv ?_)
      refine h_iret rfl rfl (h_Kv ?_)
      refine h_pop (pc' := 535) rfl rfl rfl ?_
      refine h_goto (pc' := 1441) rfl rfl ?_
      exact kk _ I0 (by first | exact d_tape.le j0 (Int.le_antisymm (by omega) (by omega)) (by omega) (fun j => rfl) (fun j => rfl) | (exfalso; omega)) (Int.le_antisymm (by omega) (by omega)) j2
    · refine h_aload_n (pc' := 6) rfl rfl rfl ?_
      refine h_aload_n (pc' := 7) rfl rfl rfl ?_
      refine h_iload_n (pc' := 8) rfl rfl rfl ?_
      refine h_call (sp := false) (pc' := 11) (M := [(0, .ref 98), (1, .int z10)]) rfl rfl rfl rfl rfl rfl rfl rfl ?_
      refine h_iload_n (pc' := 1) rfl rfl rfl ?_
      refine h_i2l (pc' := 2) rfl rfl hz10 (fun z24 hz24 => ?_)
      refine h_lconst (pc' := 3) (x := (Int64.ofInt 0)) rfl rfl rfl ?_
      refine h_aload_n (pc' := 4) rfl rfl rfl ?_
      refine h_getI (pc' := 7) (v := s0 98 1) rfl rfl rfl rfl rfl rfl (fun z25 hz25 => ?_)
      have tz25 := tf_98_1 I0
      refine h_iconst (pc' := 8) (x := (Int32.ofInt 1)) rfl rfl rfl ?_
      refine h_isub (pc' := 9) rfl rfl hz25 ci_1 rfl (by omega) (by omega) (fun z26 hz26 => ?_)
      refine h_i2l (pc' := 10) rfl rfl hz26 (fun z27 hz27 => ?_)
      refine h_calls (pc' := 13) (M := [(0, .long z24), (2, .long (Int64.ofInt 0)), (4, .long z27)]) rfl rfl rfl rfl rfl rfl ?_
      refine h_lload_n (pc' := 1) rfl rfl rfl ?_
      refine h_lload_n (pc' := 2) rfl rfl rfl ?_
      refine h_lcmp (pc' := 3) rfl rfl hz24 cl_0 (fun z28 hz28 => ?_)
      refine h_zlt (tg := 17) (pc' := 6) rfl rfl rfl rfl (fun c29 => ?_) (fun c29 => absurd c29 (by omega))
      replace c29 := (h_lcr hz28).1 c29
      clear hz28
      refine h_iconst (pc' := 18) (x := (Int32.ofInt 0)) rfl rfl rfl ?_
      refine h_zret rfl rfl ci_0 (by omega) (h_Kv ?_)
      refine h_zret rfl rfl ci_0 (by omega) (h_Kv ?_)
      refine h_zeq (tg := 37) (pc' := 14) rfl rfl rfl ci_0 (fun c30 => ?_) (fun c30 => absurd (Int.le_antisymm (by omega) (by omega)) c30)
      refine h_iconst (pc' := 38) (x := (Int32.ofInt 0)) rfl rfl rfl ?_
      refine h_bipush (pc' := 40) (x := (Int32.ofInt 6)) rfl rfl cb_6 ?_
      refine h_iload_n (pc' := 41) rfl rfl rfl ?_
      refine h_iadd (pc' := 42) rfl rfl ci_6 hz10 rfl (by have g0 := h_rgv hz10; omega) (by have g0 := h_rgv hz10; omega) (fun z31 hz31 => ?_)
      refine h_iload_n (pc' := 43) rfl rfl rfl ?_
      refine h_iconst (pc' := 44) (x := (Int32.ofInt 1)) rfl rfl rfl ?_
      refine h_call (sp := false) (pc' := 47) (M := [(0, .ref 98), (1, .int (Int32.ofInt 0)), (2, .int z31), (3, .int z14), (4, .int (Int32.ofInt 1))]) rfl rfl rfl rfl rfl rfl rfl rfl ?_
      refine h_iload_n (pc' := 1) rfl rfl rfl ?_
      refine h_zne (tg := 6) (pc' := 4) rfl rfl rfl ci_0 (fun c32 => absurd (Int.le_antisymm (by omega) (by omega)) c32) (fun c32 => ?_)
      refine h_iconst (pc' := 5) (x := (Int32.ofInt (-1))) rfl rfl rfl ?_
      refine h_iret rfl rfl (h_Kv ?_)
      refine h_iret rfl rfl (h_Kv ?_)
      refine h_pop (pc' := 535) rfl rfl rfl ?_
      refine h_goto (pc' := 1441) rfl rfl ?_
      exact kk _ I0 (by first | exact d_tape.le j0 (Int.le_antisymm (by omega) (by omega)) (by omega) (fun j => rfl) (fun j => rfl) | (exfalso; omega)) (Int.le_antisymm (by omega) (by omega)) j2
  · refine h_iload_n (pc' := 5) rfl rfl rfl ?_
    refine h_aload_n (pc' := 6) rfl rfl rfl ?_
    refine h_getI (pc' := 9) (v := s0 10 8) rfl rfl rfl rfl rfl rfl (fun z33 hz33 => ?_)
    have tz33 := tf_10_8 I0
    refine h_cge (tg := 16) (pc' := 12) rfl rfl rfl hz2 hz33 (fun c34 => ?_) (fun c34 => ?_)
    · refine h_iconst (pc' := 17) (x := (Int32.ofInt 0)) rfl rfl rfl ?_
      refine h_zret rfl rfl ci_0 (by omega) (h_Kv ?_)
      refine h_zne (tg := 13) (pc' := 11) rfl rfl rfl ci_0 (fun c35 => absurd (Int.le_antisymm (by omega) (by omega)) c35) (fun c35 => ?_)
      refine h_iconst (pc' := 12) (x := (Int32.ofInt (-1))) rfl rfl rfl ?_
      refine h_iret rfl rfl (h_Kv ?_)
      refine h_pop (pc' := 515) rfl rfl rfl ?_
      refine h_aload_n (pc' := 516) rfl rfl rfl ?_
      refine h_aload_n (pc' := 517) rfl rfl rfl ?_
      refine h_iload_n (pc' := 518) rfl rfl rfl ?_
      refine h_iconst (pc' := 519) (x := (Int32.ofInt 1)) rfl rfl rfl ?_
      refine h_iadd (pc' := 520) rfl rfl hy3 ci_1 rfl (by omega) (by omega) (fun z36 hz36 => ?_)
      refine h_iald (pc' := 521) (v := s0 0 (b3 + 1)) rfl rfl rfl hz36 (by omega) (by omega) rfl (fun z37 hz37 => ?_)
      have tz37 := h_rgv hz37
      refine h_aload_n (pc' := 522) rfl rfl rfl ?_
      refine h_iload_n (pc' := 523) rfl rfl rfl ?_
      refine h_iconst (pc' := 524) (x := (Int32.ofInt 2)) rfl rfl rfl ?_
      refine h_iadd (pc' := 525) rfl rfl hy3 ci_2 rfl (by omega) (by omega) (fun z38 hz38 => ?_)
      refine h_iald (pc' := 526) (v := s0 0 (b3 + 2)) rfl rfl rfl hz38 (by omega) (by omega) rfl (fun z39 hz39 => ?_)
      have tz39 := h_rgv hz39
      refine h_aload_n (pc' := 527) rfl rfl rfl ?_
      refine h_iload_n (pc' := 528) rfl rfl rfl ?_
      refine h_iconst (pc' := 529) (x := (Int32.ofInt 3)) rfl rfl rfl ?_
      refine h_iadd (pc' := 530) rfl rfl hy3 ci_3 rfl (by omega) (by omega) (fun z40 hz40 => ?_)
      refine h_iald (pc' := 531) (v := s0 0 (b3 + 3)) rfl rfl rfl hz40 (by omega) (by omega) rfl (fun z41 hz41 => ?_)
      have tz41 := h_rgv hz41
      refine h_call (sp := false) (pc' := 534) (M := [(0, .ref 98), (1, .int z37), (2, .int z39), (3, .int z41)]) rfl rfl rfl rfl rfl rfl rfl rfl ?_
      refine h_iload_n (pc' := 1) rfl rfl rfl ?_
      refine h_iconst (pc' := 2) (x := (Int32.ofInt 1)) rfl rfl rfl ?_
      refine h_cne (tg := 48) (pc' := 5) rfl rfl rfl hz39 ci_1 (fun c42 => ?_) (fun c42 => ?_)
      · refine h_aload_n (pc' := 49) rfl rfl rfl ?_
        refine h_aload_n (pc' := 50) rfl rfl rfl ?_
        refine h_iload_n (pc' := 51) rfl rfl rfl ?_
        refine h_call (sp := false) (pc' := 54) (M := [(0, .ref 98), (1, .int z37)]) rfl rfl rfl rfl rfl rfl rfl rfl ?_
        refine h_iload_n (pc' := 1) rfl rfl rfl ?_
        refine h_i2l (pc' := 2) rfl rfl hz37 (fun z43 hz43 => ?_)
        refine h_lconst (pc' := 3) (x := (Int64.ofInt 0)) rfl rfl rfl ?_
        refine h_aload_n (pc' := 4) rfl rfl rfl ?_
        refine h_getI (pc' := 7) (v := s0 98 1) rfl rfl rfl rfl rfl rfl (fun z44 hz44 => ?_)
        have tz44 := tf_98_1 I0
        refine h_iconst (pc' := 8) (x := (Int32.ofInt 1)) rfl rfl rfl ?_
        refine h_isub (pc' := 9) rfl rfl hz44 ci_1 rfl (by omega) (by omega) (fun z45 hz45 => ?_)
        refine h_i2l (pc' := 10) rfl rfl hz45 (fun z46 hz46 => ?_)
        refine h_calls (pc' := 13) (M := [(0, .long z43), (2, .long (Int64.ofInt 0)), (4, .long z46)]) rfl rfl rfl rfl rfl rfl ?_
        refine h_lload_n (pc' := 1) rfl rfl rfl ?_
        refine h_lload_n (pc' := 2) rfl rfl rfl ?_
        refine h_lcmp (pc' := 3) rfl rfl hz43 cl_0 (fun z47 hz47 => ?_)
        refine h_zlt (tg := 17) (pc' := 6) rfl rfl rfl rfl (fun c48 => absurd c48 (by omega)) (fun c48 => ?_)
        replace c48 := (h_lcr hz47).2.1 c48
        clear hz47
        refine h_lload_n (pc' := 7) rfl rfl rfl ?_
        refine h_lload (pc' := 9) rfl rfl rfl ?_
        refine h_lcmp (pc' := 10) rfl rfl hz43 hz46 (fun z49 hz49 => ?_)
        refine h_zgt (tg := 17) (pc' := 13) rfl rfl rfl rfl (fun c50 => ?_) (fun c50 => absurd c50 (by omega))
        replace c50 := (h_lcr hz49).2.2.2.1 c50
        clear hz49
        refine h_iconst (pc' := 18) (x := (Int32.ofInt 0)) rfl rfl rfl ?_
        refine h_zret rfl rfl ci_0 (by omega) (h_Kv ?_)
        refine h_zret rfl rfl ci_0 (by omega) (h_Kv ?_)
        refine h_zeq (tg := 77) (pc' := 57) rfl rfl rfl ci_0 (fun c51 => ?_) (fun c51 => absurd (Int.le_antisymm (by omega) (by omega)) c51)
        refine h_iconst (pc' := 78) (x := (Int32.ofInt 0)) rfl rfl rfl ?_
        refine h_iload_n (pc' := 79) rfl rfl rfl ?_
        refine h_iload_n (pc' := 80) rfl rfl rfl ?_
        refine h_iconst (pc' := 81) (x := (Int32.ofInt 0)) rfl rfl rfl ?_
        refine h_call (sp := false) (pc' := 84) (M := [(0, .ref 98), (1, .int (Int32.ofInt 0)), (2, .int z37), (3, .int z41), (4, .int (Int32.ofInt 0))]) rfl rfl rfl rfl rfl rfl rfl rfl ?_
        refine h_iload_n (pc' := 1) rfl rfl rfl ?_
        refine h_zne (tg := 6) (pc' := 4) rfl rfl rfl ci_0 (fun c52 => absurd (Int.le_antisymm (by omega) (by omega)) c52) (fun c52 => ?_)
        refine h_iconst (pc' := 5) (x := (Int32.ofInt (-1))) rfl rfl rfl ?_
        refine h_iret rfl rfl (h_Kv ?_)
        refine h_iret rfl rfl (h_Kv ?_)
        refine h_pop (pc' := 535) rfl rfl rfl ?_
        refine h_goto (pc' := 1441) rfl rfl ?_
        exact kk _ I0 (by first | exact d_tape.le j0 (Int.le_antisymm (by omega) (by omega)) (by omega) (fun j => rfl) (fun j => rfl) | (exfalso; omega)) (Int.le_antisymm (by omega) (by omega)) j2
      · refine h_aload_n (pc' := 6) rfl rfl rfl ?_
        refine h_aload_n (pc' := 7) rfl rfl rfl ?_
        refine h_iload_n (pc' := 8) rfl rfl rfl ?_
        refine h_call (sp := false) (pc' := 11) (M := [(0, .ref 98), (1, .int z37)]) rfl rfl rfl rfl rfl rfl rfl rfl ?_
        refine h_iload_n (pc' := 1) rfl rfl rfl ?_
        refine h_i2l (pc' := 2) rfl rfl hz37 (fun z53 hz53 => ?_)
        refine h_lconst (pc' := 3) (x := (Int64.ofInt 0)) rfl rfl rfl ?_
        refine h_aload_n (pc' := 4) rfl rfl rfl ?_
        refine h_getI (pc' := 7) (v := s0 98 1) rfl rfl rfl rfl rfl rfl (fun z54 hz54 => ?_)
        have tz54 := tf_98_1 I0
        refine h_iconst (pc' := 8) (x := (Int32.ofInt 1)) rfl rfl rfl ?_
        refine h_isub (pc' := 9) rfl rfl hz54 ci_1 rfl (by omega) (by omega) (fun z55 hz55 => ?_)
        refine h_i2l (pc' := 10) rfl rfl hz55 (fun z56 hz56 => ?_)
        refine h_calls (pc' := 13) (M := [(0, .long z53), (2, .long (Int64.ofInt 0)), (4, .long z56)]) rfl rfl rfl rfl rfl rfl ?_
        refine h_lload_n (pc' := 1) rfl rfl rfl ?_
        refine h_lload_n (pc' := 2) rfl rfl rfl ?_
        refine h_lcmp (pc' := 3) rfl rfl hz53 cl_0 (fun z57 hz57 => ?_)
        refine h_zlt (tg := 17) (pc' := 6) rfl rfl rfl rfl (fun c58 => absurd c58 (by omega)) (fun c58 => ?_)
        replace c58 := (h_lcr hz57).2.1 c58
        clear hz57
        refine h_lload_n (pc' := 7) rfl rfl rfl ?_
        refine h_lload (pc' := 9) rfl rfl rfl ?_
        refine h_lcmp (pc' := 10) rfl rfl hz53 hz56 (fun z59 hz59 => ?_)
        refine h_zgt (tg := 17) (pc' := 13) rfl rfl rfl rfl (fun c60 => ?_) (fun c60 => absurd c60 (by omega))
        replace c60 := (h_lcr hz59).2.2.2.1 c60
        clear hz59
        refine h_iconst (pc' := 18) (x := (Int32.ofInt 0)) rfl rfl rfl ?_
        refine h_zret rfl rfl ci_0 (by omega) (h_Kv ?_)
        refine h_zret rfl rfl ci_0 (by omega) (h_Kv ?_)
        refine h_zeq (tg := 37) (pc' := 14) rfl rfl rfl ci_0 (fun c61 => ?_) (fun c61 => absurd (Int.le_antisymm (by omega) (by omega)) c61)
        refine h_iconst (pc' := 38) (x := (Int32.ofInt 0)) rfl rfl rfl ?_
        refine h_bipush (pc' := 40) (x := (Int32.ofInt 6)) rfl rfl cb_6 ?_
        refine h_iload_n (pc' := 41) rfl rfl rfl ?_
        refine h_iaddA (pc' := 42) rfl rfl (fun z62 hz62 => ?_)
        refine h_iload_n (pc' := 43) rfl rfl rfl ?_
        refine h_iconst (pc' := 44) (x := (Int32.ofInt 1)) rfl rfl rfl ?_
        refine h_call (sp := false) (pc' := 47) (M := [(0, .ref 98), (1, .int (Int32.ofInt 0)), (2, .int z62), (3, .int z41), (4, .int (Int32.ofInt 1))]) rfl rfl rfl rfl rfl rfl rfl rfl ?_
        refine h_iload_n (pc' := 1) rfl rfl rfl ?_
        refine h_zne (tg := 6) (pc' := 4) rfl rfl rfl ci_0 (fun c63 => absurd (Int.le_antisymm (by omega) (by omega)) c63) (fun c63 => ?_)
        refine h_iconst (pc' := 5) (x := (Int32.ofInt (-1))) rfl rfl rfl ?_
        refine h_iret rfl rfl (h_Kv ?_)
        refine h_iret rfl rfl (h_Kv ?_)
        refine h_pop (pc' := 535) rfl rfl rfl ?_
        refine h_goto (pc' := 1441) rfl rfl ?_
        exact kk _ I0 (by first | exact d_tape.le j0 (Int.le_antisymm (by omega) (by omega)) (by omega) (fun j => rfl) (fun j => rfl) | (exfalso; omega)) (Int.le_antisymm (by omega) (by omega)) j2
    · refine h_iconst (pc' := 13) (x := (Int32.ofInt 1)) rfl rfl rfl ?_
      refine h_goto (pc' := 17) rfl rfl ?_
      refine h_zret rfl rfl ci_1 (by omega) (h_Kv ?_)
      refine h_zne (tg := 13) (pc' := 11) rfl rfl rfl ci_1 (fun c64 => ?_) (fun c64 => absurd c64 (by omega))
      refine h_iload_n (pc' := 14) rfl rfl rfl ?_
      refine h_zne (tg := 50) (pc' := 17) rfl rfl rfl hz4 (fun c65 => ?_) (fun c65 => ?_)
      · refine h_iload_n (pc' := 51) rfl rfl rfl ?_
        refine h_iconst (pc' := 52) (x := (Int32.ofInt 1)) rfl rfl rfl ?_
        refine h_cne (tg := 94) (pc' := 55) rfl rfl rfl hz4 ci_1 (fun c66 => ?_) (fun c66 => ?_)
        · refine h_iconst (pc' := 95) (x := (Int32.ofInt (-1))) rfl rfl rfl ?_
          refine h_iret rfl rfl (h_Kv ?_)
          refine h_pop (pc' := 515) rfl rfl rfl ?_
          refine h_aload_n (pc' := 516) rfl rfl rfl ?_
          refine h_aload_n (pc' := 517) rfl rfl rfl ?_
          refine h_iload_n (pc' := 518) rfl rfl rfl ?_
          refine h_iconst (pc' := 519) (x := (Int32.ofInt 1)) rfl rfl rfl ?_
          refine h_iadd (pc' := 520) rfl rfl hy3 ci_1 rfl (by omega) (by omega) (fun z67 hz67 => ?_)
          refine h_iald (pc' := 521) (v := s0 0 (b3 + 1)) rfl rfl rfl hz67 (by omega) (by omega) rfl (fun z68 hz68 => ?_)
          have tz68 := h_rgv hz68
          refine h_aload_n (pc' := 522) rfl rfl rfl ?_
          refine h_iload_n (pc' := 523) rfl rfl rfl ?_
          refine h_iconst (pc' := 524) (x := (Int32.ofInt 2)) rfl rfl rfl ?_
          refine h_iadd (pc' := 525) rfl rfl hy3 ci_2 rfl (by omega) (by omega) (fun z69 hz69 => ?_)
          refine h_iald (pc' := 526) (v := s0 0 (b3 + 2)) rfl rfl rfl hz69 (by omega) (by omega) rfl (fun z70 hz70 => ?_)
          have tz70 := h_rgv hz70
          refine h_aload_n (pc' := 527) rfl rfl rfl ?_
          refine h_iload_n (pc' := 528) rfl rfl rfl ?_
          refine h_iconst (pc' := 529) (x := (Int32.ofInt 3)) rfl rfl rfl ?_
          refine h_iadd (pc' := 530) rfl rfl hy3 ci_3 rfl (by omega) (by omega) (fun z71 hz71 => ?_)
          refine h_iald (pc' := 531) (v := s0 0 (b3 + 3)) rfl rfl rfl hz71 (by omega) (by omega) rfl (fun z72 hz72 => ?_)
          have tz72 := h_rgv hz72
          refine h_call (sp := false) (pc' := 534) (M := [(0, .ref 98), (1, .int z68), (2, .int z70), (3, .int z72)]) rfl rfl rfl rfl rfl rfl rfl rfl ?_
          refine h_iload_n (pc' := 1) rfl rfl rfl ?_
          refine h_iconst (pc' := 2) (x := (Int32.ofInt 1)) rfl rfl rfl ?_
          refine h_cne (tg := 48) (pc' := 5) rfl rfl rfl hz70 ci_1 (fun c73 => ?_) (fun c73 => absurd c73 (by omega))
          refine h_aload_n (pc' := 49) rfl rfl rfl ?_
          refine h_aload_n (pc' := 50) rfl rfl rfl ?_
          refine h_iload_n (pc' := 51) rfl rfl rfl ?_
          refine h_call (sp := false) (pc' := 54) (M := [(0, .ref 98), (1, .int z68)]) rfl rfl rfl rfl rfl rfl rfl rfl ?_
          refine h_iload_n (pc' := 1) rfl rfl rfl ?_
          refine h_i2l (pc' := 2) rfl rfl hz68 (fun z74 hz74 => ?_)
          refine h_lconst (pc' := 3) (x := (Int64.ofInt 0)) rfl rfl rfl ?_
          refine h_aload_n (pc' := 4) rfl rfl rfl ?_
          refine h_getI (pc' := 7) (v := s0 98 1) rfl rfl rfl rfl rfl rfl (fun z75 hz75 => ?_)
          have tz75 := tf_98_1 I0
          refine h_iconst (pc' := 8) (x := (Int32.ofInt 1)) rfl rfl rfl ?_
          refine h_isub (pc' := 9) rfl rfl hz75 ci_1 rfl (by omega) (by omega) (fun z76 hz76 => ?_)
          refine h_i2l (pc' := 10) rfl rfl hz76 (fun z77 hz77 => ?_)
          refine h_calls (pc' := 13) (M := [(0, .long z74), (2, .long (Int64.ofInt 0)), (4, .long z77)]) rfl rfl rfl rfl rfl rfl ?_
          refine h_lload_n (pc' := 1) rfl rfl rfl ?_
          refine h_lload_n (pc' := 2) rfl rfl rfl ?_
          refine h_lcmp (pc' := 3) rfl rfl hz74 cl_0 (fun z78 hz78 => ?_)
          refine h_zlt (tg := 17) (pc' := 6) rfl rfl rfl rfl (fun c79 => absurd c79 (by omega)) (fun c79 => ?_)
          replace c79 := (h_lcr hz78).2.1 c79
          clear hz78
          refine h_lload_n (pc' := 7) rfl rfl rfl ?_
          refine h_lload (pc' := 9) rfl rfl rfl ?_
          refine h_lcmp (pc' := 10) rfl rfl hz74 hz77 (fun z80 hz80 => ?_)
          refine h_zgt (tg := 17) (pc' := 13) rfl rfl rfl rfl (fun c81 => absurd c81 (by omega)) (fun c81 => ?_)
          replace c81 := (h_lcr hz80).2.2.1 c81
          clear hz80
          refine h_iconst (pc' := 14) (x := (Int32.ofInt 1)) rfl rfl rfl ?_
          refine h_goto (pc' := 18) rfl rfl ?_
          refine h_zret rfl rfl ci_1 (by omega) (h_Kv ?_)
          refine h_zret rfl rfl ci_1 (by omega) (h_Kv ?_)
          refine h_zeq (tg := 77) (pc' := 57) rfl rfl rfl ci_1 (fun c82 => absurd c82 (by omega)) (fun c82 => ?_)
          refine h_iload_n (pc' := 58) rfl rfl rfl ?_
          refine h_zne (tg := 77) (pc' := 61) rfl rfl rfl hz70 (fun c83 => ?_) (fun c83 => absurd c83 (by omega))
          refine h_iconst (pc' := 78) (x := (Int32.ofInt 0)) rfl rfl rfl ?_
          refine h_iload_n (pc' := 79) rfl rfl rfl ?_
          refine h_iload_n (pc' := 80) rfl rfl rfl ?_
          refine h_iconst (pc' := 81) (x := (Int32.ofInt 0)) rfl rfl rfl ?_
          refine h_call (sp := false) (pc' := 84) (M := [(0, .ref 98), (1, .int (Int32.ofInt 0)), (2, .int z68), (3, .int z72), (4, .int (Int32.ofInt 0))]) rfl rfl rfl rfl rfl rfl rfl rfl ?_
          refine h_iload_n (pc' := 1) rfl rfl rfl ?_
          refine h_zne (tg := 6) (pc' := 4) rfl rfl rfl ci_0 (fun c84 => absurd (Int.le_antisymm (by omega) (by omega)) c84) (fun c84 => ?_)
          refine h_iconst (pc' := 5) (x := (Int32.ofInt (-1))) rfl rfl rfl ?_
          refine h_iret rfl rfl (h_Kv ?_)
          refine h_iret rfl rfl (h_Kv ?_)
          refine h_pop (pc' := 535) rfl rfl rfl ?_
          refine h_goto (pc' := 1441) rfl rfl ?_
          exact kk _ I0 (by first | exact d_tape.le j0 (Int.le_antisymm (by omega) (by omega)) (by omega) (fun j => rfl) (fun j => rfl) | (exfalso; omega)) (Int.le_antisymm (by omega) (by omega)) j2
        · refine h_iload_n (pc' := 56) rfl rfl rfl ?_
          refine h_bipush (pc' := 58) (x := (Int32.ofInt (-4))) rfl rfl cb_m4 ?_
          refine h_ceq (tg := 70) (pc' := 61) rfl rfl rfl hz6 ci_m4 (fun c85 => ?_) (fun c85 => ?_)
          · refine h_aload_n (pc' := 71) rfl rfl rfl ?_
            refine h_getR (pc' := 74) rfl rfl rfl rfl rfl ?_
            refine h_getR (pc' := 77) rfl rfl rfl rfl rfl ?_
            refine h_iload_n (pc' := 78) rfl rfl rfl ?_
            refine h_iald (pc' := 79) (v := s0 12 (s0 0 (b3 + 1))) rfl rfl rfl hz2 (by omega) (by omega) rfl (fun z86 hz86 => ?_)
            have tz86 := ty_12 I0 (s0 0 (b3 + 1))
            refine h_istore (pc' := 81) (M := [(4, .int z86), (0, .ref 9), (1, .int z2), (2, .int z4), (3, .int z6)]) rfl rfl rfl rfl ?_
            refine h_aload_n (pc' := 82) rfl rfl rfl ?_
            refine h_getR (pc' := 85) rfl rfl rfl rfl rfl ?_
            refine h_getR (pc' := 88) rfl rfl rfl rfl rfl ?_
            refine h_iload_n (pc' := 89) rfl rfl rfl ?_
            refine h_iload_n (pc' := 90) rfl rfl rfl ?_
            refine h_iast (pc' := 91) rfl rfl rfl rfl hz2 (by omega) (by omega) hz6 (h_fgt (E := fun s => s 64 1 = s0 64 1 ∧ s 98 11 = s0 98 11 ∧ s 64 4 = s0 64 4 ∧ s 98 16 = s0 98 16 ∧ s 63 2 = s0 63 2 ∧ s 10 8 = s0 10 8 ∧ s 98 1 = s0 98 1 ∧ s 10 9 = s0 10 9 ∧ s 98 2 = s0 98 2 ∧ s 10 10 = s0 10 10 ∧ s 99 43 = s0 99 43 ∧ s 13 2 = s0 13 2 ∧ s 99 18 = s0 99 18 ∧ s 16 2 = s0 16 2 ∧ s 99 25 = s0 99 25 ∧ s 62 0 = s0 62 0 ∧ s 110 0 = s0 110 0 ∧ s 62 1 = s0 62 1 ∧ s 110 1 = s0 110 1 ∧ s = h_up s0 12 (s0 0 (b3 + 1)) (s0 0 (b3 + 3))) _ (in_12 I0 (by omega)) (F0_.up rfl) ⟨rfl, rfl, rfl, rfl, rfl, rfl, rfl, rfl, rfl, rfl, rfl, rfl, rfl, rfl, rfl, rfl, rfl, rfl, rfl, rfl⟩ (fun s87 Is87 Fs87 (es87 : s87 64 1 = s0 64 1 ∧ s87 98 11 = s0 98 11 ∧ s87 64 4 = s0 64 4 ∧ s87 98 16 = s0 98 16 ∧ s87 63 2 = s0 63 2 ∧ s87 10 8 = s0 10 8 ∧ s87 98 1 = s0 98 1 ∧ s87 10 9 = s0 10 9 ∧ s87 98 2 = s0 98 2 ∧ s87 10 10 = s0 10 10 ∧ s87 99 43 = s0 99 43 ∧ s87 13 2 = s0 13 2 ∧ s87 99 18 = s0 99 18 ∧ s87 16 2 = s0 16 2 ∧ s87 99 25 = s0 99 25 ∧ s87 62 0 = s0 62 0 ∧ s87 110 0 = s0 110 0 ∧ s87 62 1 = s0 62 1 ∧ s87 110 1 = s0 110 1 ∧ s87 = h_up s0 12 (s0 0 (b3 + 1)) (s0 0 (b3 + 3))) => ?_))
            have us87 := es87.2.2.2.2.2.2.2.2.2.2.2.2.2.2.2.2.2.2.2
            have Zs87 : ∀ i, s87 0 i = s0 0 i := fun i => (h_upo us87 rfl i).trans rfl
            refine h_iload (pc' := 93) rfl rfl rfl ?_
            refine h_iret rfl rfl (h_Kv ?_)
            refine h_pop (pc' := 515) rfl rfl rfl ?_
            refine h_aload_n (pc' := 516) rfl rfl rfl ?_
            refine h_aload_n (pc' := 517) rfl rfl rfl ?_
            refine h_iload_n (pc' := 518) rfl rfl rfl ?_
            refine h_iconst (pc' := 519) (x := (Int32.ofInt 1)) rfl rfl rfl ?_
            refine h_iadd (pc' := 520) rfl rfl hy3 ci_1 rfl (by omega) (by omega) (fun z88 hz88 => ?_)
            refine h_iald (pc' := 521) (v := s0 0 (b3 + 1)) rfl rfl rfl hz88 (by omega) (by omega) (Zs87 _) (fun z89 hz89 => ?_)
            have tz89 := h_rgv hz89
            refine h_aload_n (pc' := 522) rfl rfl rfl ?_
            refine h_iload_n (pc' := 523) rfl rfl rfl ?_
            refine h_iconst (pc' := 524) (x := (Int32.ofInt 2)) rfl rfl rfl ?_
            refine h_iadd (pc' := 525) rfl rfl hy3 ci_2 rfl (by omega) (by omega) (fun z90 hz90 => ?_)
            refine h_iald (pc' := 526) (v := s0 0 (b3 + 2)) rfl rfl rfl hz90 (by omega) (by omega) (Zs87 _) (fun z91 hz91 => ?_)
            have tz91 := h_rgv hz91
            refine h_aload_n (pc' := 527) rfl rfl rfl ?_
            refine h_iload_n (pc' := 528) rfl rfl rfl ?_
            refine h_iconst (pc' := 529) (x := (Int32.ofInt 3)) rfl rfl rfl ?_
            refine h_iadd (pc' := 530) rfl rfl hy3 ci_3 rfl (by omega) (by omega) (fun z92 hz92 => ?_)
            refine h_iald (pc' := 531) (v := s0 0 (b3 + 3)) rfl rfl rfl hz92 (by omega) (by omega) (Zs87 _) (fun z93 hz93 => ?_)
            have tz93 := h_rgv hz93
            refine h_call (sp := false) (pc' := 534) (M := [(0, .ref 98), (1, .int z89), (2, .int z91), (3, .int z93)]) rfl rfl rfl rfl rfl rfl rfl rfl ?_
            refine h_iload_n (pc' := 1) rfl rfl rfl ?_
            refine h_iconst (pc' := 2) (x := (Int32.ofInt 1)) rfl rfl rfl ?_
            refine h_cne (tg := 48) (pc' := 5) rfl rfl rfl hz91 ci_1 (fun c94 => absurd (Int.le_antisymm (by omega) (by omega)) c94) (fun c94 => ?_)
            refine h_aload_n (pc' := 6) rfl rfl rfl ?_
            refine h_aload_n (pc' := 7) rfl rfl rfl ?_
            refine h_iload_n (pc' := 8) rfl rfl rfl ?_
            refine h_call (sp := false) (pc' := 11) (M := [(0, .ref 98), (1, .int z89)]) rfl rfl rfl rfl rfl rfl rfl rfl ?_
            refine h_iload_n (pc' := 1) rfl rfl rfl ?_
            refine h_i2l (pc' := 2) rfl rfl hz89 (fun z95 hz95 => ?_)
            refine h_lconst (pc' := 3) (x := (Int64.ofInt 0)) rfl rfl rfl ?_
            refine h_aload_n (pc' := 4) rfl rfl rfl ?_
            refine h_getI (pc' := 7) (v := s0 98 1) rfl rfl rfl rfl rfl es87.2.2.2.2.2.2.1 (fun z96 hz96 => ?_)
            have tz96 := tf_98_1 I0
            refine h_iconst (pc' := 8) (x := (Int32.ofInt 1)) rfl rfl rfl ?_
            refine h_isub (pc' := 9) rfl rfl hz96 ci_1 rfl (by omega) (by omega) (fun z97 hz97 => ?_)
            refine h_i2l (pc' := 10) rfl rfl hz97 (fun z98 hz98 => ?_)
            refine h_calls (pc' := 13) (M := [(0, .long z95), (2, .long (Int64.ofInt 0)), (4, .long z98)]) rfl rfl rfl rfl rfl rfl ?_
            refine h_lload_n (pc' := 1) rfl rfl rfl ?_
            refine h_lload_n (pc' := 2) rfl rfl rfl ?_
            refine h_lcmp (pc' := 3) rfl rfl hz95 cl_0 (fun z99 hz99 => ?_)
            refine h_zlt (tg := 17) (pc' := 6) rfl rfl rfl rfl (fun c100 => absurd c100 (by omega)) (fun c100 => ?_)
            replace c100 := (h_lcr hz99).2.1 c100
            clear hz99
            refine h_lload_n (pc' := 7) rfl rfl rfl ?_
            refine h_lload (pc' := 9) rfl rfl rfl ?_
            refine h_lcmp (pc' := 10) rfl rfl hz95 hz98 (fun z101 hz101 => ?_)
            refine h_zgt (tg := 17) (pc' := 13) rfl rfl rfl rfl (fun c102 => absurd c102 (by omega)) (fun c102 => ?_)
            replace c102 := (h_lcr hz101).2.2.1 c102
            clear hz101
            refine h_iconst (pc' := 14) (x := (Int32.ofInt 1)) rfl rfl rfl ?_
            refine h_goto (pc' := 18) rfl rfl ?_
            refine h_zret rfl rfl ci_1 (by omega) (h_Kv ?_)
            refine h_zret rfl rfl ci_1 (by omega) (h_Kv ?_)
            refine h_zeq (tg := 37) (pc' := 14) rfl rfl rfl ci_1 (fun c103 => absurd c103 (by omega)) (fun c103 => ?_)
            refine h_iload_n (pc' := 15) rfl rfl rfl ?_
            refine h_bipush (pc' := 17) (x := (Int32.ofInt (-4))) rfl rfl cb_m4 ?_
            refine h_ceq (tg := 33) (pc' := 20) rfl rfl rfl hz93 ci_m4 (fun c104 => ?_) (fun c104 => absurd (Int.le_antisymm (by omega) (by omega)) c104)
            refine h_iconst (pc' := 34) (x := (Int32.ofInt 1)) rfl rfl rfl ?_
            refine h_goto (pc' := 38) rfl rfl ?_
            refine h_bipush (pc' := 40) (x := (Int32.ofInt 6)) rfl rfl cb_6 ?_
            refine h_iload_n (pc' := 41) rfl rfl rfl ?_
            refine h_iadd (pc' := 42) rfl rfl ci_6 hz89 rfl (by have g0 := h_rgv hz89; omega) (by have g0 := h_rgv hz89; omega) (fun z105 hz105 => ?_)
            refine h_iload_n (pc' := 43) rfl rfl rfl ?_
            refine h_iconst (pc' := 44) (x := (Int32.ofInt 1)) rfl rfl rfl ?_
            refine h_call (sp := false) (pc' := 47) (M := [(0, .ref 98), (1, .int (Int32.ofInt 1)), (2, .int z105), (3, .int z93), (4, .int (Int32.ofInt 1))]) rfl rfl rfl rfl rfl rfl rfl rfl ?_
            refine h_iload_n (pc' := 1) rfl rfl rfl ?_
            refine h_zne (tg := 6) (pc' := 4) rfl rfl rfl ci_1 (fun c106 => ?_) (fun c106 => absurd c106 (by omega))
            refine h_iload (pc' := 8) rfl rfl rfl ?_
            refine h_zne (tg := 20) (pc' := 11) rfl rfl rfl ci_1 (fun c107 => ?_) (fun c107 => absurd c107 (by omega))
            refine h_aload_n (pc' := 21) rfl rfl rfl ?_
            refine h_getR (pc' := 24) rfl rfl rfl rfl rfl ?_
            refine h_iload_n (pc' := 25) rfl rfl rfl ?_
            refine h_iald (pc' := 26) (v := s87 99 (6 + (s0 0 (b3 + 1)))) rfl rfl rfl hz105 (by omega) (by omega) rfl (fun z108 hz108 => ?_)
            have tz108 := ty_99_1 Is87 (6 + (s0 0 (b3 + 1))) (by omega)
            refine h_calls (pc' := 29) (M := [(0, .int z108)]) rfl rfl rfl rfl rfl rfl ?_
            refine h_iload_n (pc' := 1) rfl rfl rfl ?_
            refine h_zne (tg := 9) (pc' := 4) rfl rfl rfl hz108 (fun c109 => ?_) (fun c109 => ?_)
            · refine h_iload_n (pc' := 10) rfl rfl rfl ?_
              refine h_iconst (pc' := 11) (x := (Int32.ofInt 1)) rfl rfl rfl ?_
              refine h_isub (pc' := 12) rfl rfl hz108 ci_1 rfl (by omega) (by omega) (fun z110 hz110 => ?_)
              refine h_iret rfl rfl (h_Kv ?_)
              refine h_istore (pc' := 31) (M := [(5, .int z110), (0, .ref 98), (1, .int (Int32.ofInt 1)), (2, .int z105), (3, .int z93), (4, .int (Int32.ofInt 1))]) rfl rfl rfl rfl ?_
              refine h_aload_n (pc' := 32) rfl rfl rfl ?_
              refine h_getR (pc' := 35) rfl rfl rfl rfl rfl ?_
              refine h_iload_n (pc' := 36) rfl rfl rfl ?_
              refine h_iload (pc' := 38) rfl rfl rfl ?_
              refine h_zne (tg := 45) (pc' := 41) rfl rfl rfl ci_1 (fun c111 => ?_) (fun c111 => absurd c111 (by omega))
              refine h_iload_n (pc' := 46) rfl rfl rfl ?_
              refine h_bipush (pc' := 48) (x := (Int32.ofInt (-4))) rfl rfl cb_m4 ?_
              refine h_cne (tg := 55) (pc' := 51) rfl rfl rfl hz93 ci_m4 (fun c112 => absurd (Int.le_antisymm (by omega) (by omega)) c112) (fun c112 => ?_)
              refine h_iconst (pc' := 52) (x := (Int32.ofInt 0)) rfl rfl rfl ?_
              refine h_goto (pc' := 58) rfl rfl ?_
              refine h_iast (pc' := 59) rfl rfl rfl rfl hz105 (by omega) (by omega) ci_0 (h_fgt (E := fun s => s 64 1 = s0 64 1 ∧ s 98 11 = s0 98 11 ∧ s 64 4 = s0 64 4 ∧ s 98 16 = s0 98 16 ∧ s 63 2 = s0 63 2 ∧ s 10 8 = s0 10 8 ∧ s 98 1 = s0 98 1 ∧ s 10 9 = s0 10 9 ∧ s 98 2 = s0 98 2 ∧ s 10 10 = s0 10 10 ∧ s 99 43 = s0 99 43 ∧ s 13 2 = s0 13 2 ∧ s 99 18 = s0 99 18 ∧ s 16 2 = s0 16 2 ∧ s 99 25 = s0 99 25 ∧ s 62 0 = s0 62 0 ∧ s 110 0 = s0 110 0 ∧ s 62 1 = s0 62 1 ∧ s 110 1 = s0 110 1 ∧ s = h_up s87 99 (6 + (s0 0 (b3 + 1))) 0) _ (ip_99_1 Is87 (by omega) (by omega)) (Fs87.up (k_ipg (p := 0) rfl rfl (by omega))) ⟨es87.1, es87.2.1, es87.2.2.1, es87.2.2.2.1, es87.2.2.2.2.1, es87.2.2.2.2.2.1, es87.2.2.2.2.2.2.1, es87.2.2.2.2.2.2.2.1, es87.2.2.2.2.2.2.2.2.1, es87.2.2.2.2.2.2.2.2.2.1, h_up_n2 (by omega) es87.2.2.2.2.2.2.2.2.2.2.1, es87.2.2.2.2.2.2.2.2.2.2.2.1, h_up_n2 (by omega) es87.2.2.2.2.2.2.2.2.2.2.2.2.1, es87.2.2.2.2.2.2.2.2.2.2.2.2.2.1, h_up_n2 (by omega) es87.2.2.2.2.2.2.2.2.2.2.2.2.2.2.1, es87.2.2.2.2.2.2.2.2.2.2.2.2.2.2.2.1, es87.2.2.2.2.2.2.2.2.2.2.2.2.2.2.2.2.1, es87.2.2.2.2.2.2.2.2.2.2.2.2.2.2.2.2.2.1, es87.2.2.2.2.2.2.2.2.2.2.2.2.2.2.2.2.2.2.1, rfl⟩ (fun s113 Is113 Fs113 (es113 : s113 64 1 = s0 64 1 ∧ s113 98 11 = s0 98 11 ∧ s113 64 4 = s0 64 4 ∧ s113 98 16 = s0 98 16 ∧ s113 63 2 = s0 63 2 ∧ s113 10 8 = s0 10 8 ∧ s113 98 1 = s0 98 1 ∧ s113 10 9 = s0 10 9 ∧ s113 98 2 = s0 98 2 ∧ s113 10 10 = s0 10 10 ∧ s113 99 43 = s0 99 43 ∧ s113 13 2 = s0 13 2 ∧ s113 99 18 = s0 99 18 ∧ s113 16 2 = s0 16 2 ∧ s113 99 25 = s0 99 25 ∧ s113 62 0 = s0 62 0 ∧ s113 110 0 = s0 110 0 ∧ s113 62 1 = s0 62 1 ∧ s113 110 1 = s0 110 1 ∧ s113 = h_up s87 99 (6 + (s0 0 (b3 + 1))) 0) => ?_))
              clear es87
              have us113 := es113.2.2.2.2.2.2.2.2.2.2.2.2.2.2.2.2.2.2.2
              have Zs113 : ∀ i, s113 0 i = s0 0 i := fun i => (h_upo us113 rfl i).trans (Zs87 i)
              refine h_iload (pc' := 61) rfl rfl rfl ?_
              refine h_iret rfl rfl (h_Kv ?_)
              refine h_iret rfl rfl (h_Kv ?_)
              refine h_pop (pc' := 535) rfl rfl rfl ?_
              refine h_goto (pc' := 1441) rfl rfl ?_
              exact kk _ Is113 (by first | exact d_tape.le j0 (Int.le_antisymm (by omega) (by omega)) (by omega) (fun j => (h_upo us113 rfl j).trans ((h_upo us87 rfl j))) (fun j => (h_upo us113 rfl j).trans ((h_upo us87 rfl j))) | (exfalso; omega)) (Int.le_antisymm (by omega) (by omega)) (c_R.par j2 I0 (by omega) (by omega) (Int.le_antisymm (by omega) (by omega)) (by omega) (fun j => (h_upo us113 rfl j).trans ((h_upi us87 j)))  (fun j => (h_upi us113 j).trans (congrArg (fun z => if j = (6 + (s0 0 (b3 + 1))) then 0 else z) ((h_upo us87 rfl j))))  (fun p j n0 n1 => (h_upq us113 n1 j).trans ((h_upq us87 n0 j))))
            · refine h_bipush (pc' := 6) (x := (Int32.ofInt (-4))) rfl rfl cb_m4 ?_
              refine h_goto (pc' := 12) rfl rfl ?_
              refine h_iret rfl rfl (h_Kv ?_)
              refine h_istore (pc' := 31) (M := [(5, .int (Int32.ofInt (-4))), (0, .ref 98), (1, .int (Int32.ofInt 1)), (2, .int z105), (3, .int z93), (4, .int (Int32.ofInt 1))]) rfl rfl rfl rfl ?_
              refine h_aload_n (pc' := 32) rfl rfl rfl ?_
              refine h_getR (pc' := 35) rfl rfl rfl rfl rfl ?_
              refine h_iload_n (pc' := 36) rfl rfl rfl ?_
              refine h_iload (pc' := 38) rfl rfl rfl ?_
              refine h_zne (tg := 45) (pc' := 41) rfl rfl rfl ci_1 (fun c114 => ?_) (fun c114 => absurd c114 (by omega))
              refine h_iload_n (pc' := 46) rfl rfl rfl ?_
              refine h_bipush (pc' := 48) (x := (Int32.ofInt (-4))) rfl rfl cb_m4 ?_
              refine h_cne (tg := 55) (pc' := 51) rfl rfl rfl hz93 ci_m4 (fun c115 => absurd (Int.le_antisymm (by omega) (by omega)) c115) (fun c115 => ?_)
              refine h_iconst (pc' := 52) (x := (Int32.ofInt 0)) rfl rfl rfl ?_
              refine h_goto (pc' := 58) rfl rfl ?_
              refine h_iast (pc' := 59) rfl rfl rfl rfl hz105 (by omega) (by omega) ci_0 (h_fgt (E := fun s => s 64 1 = s0 64 1 ∧ s 98 11 = s0 98 11 ∧ s 64 4 = s0 64 4 ∧ s 98 16 = s0 98 16 ∧ s 63 2 = s0 63 2 ∧ s 10 8 = s0 10 8 ∧ s 98 1 = s0 98 1 ∧ s 10 9 = s0 10 9 ∧ s 98 2 = s0 98 2 ∧ s 10 10 = s0 10 10 ∧ s 99 43 = s0 99 43 ∧ s 13 2 = s0 13 2 ∧ s 99 18 = s0 99 18 ∧ s 16 2 = s0 16 2 ∧ s 99 25 = s0 99 25 ∧ s 62 0 = s0 62 0 ∧ s 110 0 = s0 110 0 ∧ s 62 1 = s0 62 1 ∧ s 110 1 = s0 110 1 ∧ s = h_up s87 99 (6 + (s0 0 (b3 + 1))) 0) _ (ip_99_1 Is87 (by omega) (by omega)) (Fs87.up (k_ipg (p := 0) rfl rfl (by omega))) ⟨es87.1, es87.2.1, es87.2.2.1, es87.2.2.2.1, es87.2.2.2.2.1, es87.2.2.2.2.2.1, es87.2.2.2.2.2.2.1, es87.2.2.2.2.2.2.2.1, es87.2.2.2.2.2.2.2.2.1, es87.2.2.2.2.2.2.2.2.2.1, h_up_n2 (by omega) es87.2.2.2.2.2.2.2.2.2.2.1, es87.2.2.2.2.2.2.2.2.2.2.2.1, h_up_n2 (by omega) es87.2.2.2.2.2.2.2.2.2.2.2.2.1, es87.2.2.2.2.2.2.2.2.2.2.2.2.2.1, h_up_n2 (by omega) es87.2.2.2.2.2.2.2.2.2.2.2.2.2.2.1, es87.2.2.2.2.2.2.2.2.2.2.2.2.2.2.2.1, es87.2.2.2.2.2.2.2.2.2.2.2.2.2.2.2.2.1, es87.2.2.2.2.2.2.2.2.2.2.2.2.2.2.2.2.2.1, es87.2.2.2.2.2.2.2.2.2.2.2.2.2.2.2.2.2.2.1, rfl⟩ (fun s116 Is116 Fs116 (es116 : s116 64 1 = s0 64 1 ∧ s116 98 11 = s0 98 11 ∧ s116 64 4 = s0 64 4 ∧ s116 98 16 = s0 98 16 ∧ s116 63 2 = s0 63 2 ∧ s116 10 8 = s0 10 8 ∧ s116 98 1 = s0 98 1 ∧ s116 10 9 = s0 10 9 ∧ s116 98 2 = s0 98 2 ∧ s116 10 10 = s0 10 10 ∧ s116 99 43 = s0 99 43 ∧ s116 13 2 = s0 13 2 ∧ s116 99 18 = s0 99 18 ∧ s116 16 2 = s0 16 2 ∧ s116 99 25 = s0 99 25 ∧ s116 62 0 = s0 62 0 ∧ s116 110 0 = s0 110 0 ∧ s116 62 1 = s0 62 1 ∧ s116 110 1 = s0 110 1 ∧ s116 = h_up s87 99 (6 + (s0 0 (b3 + 1))) 0) => ?_))
              clear es87
              have us116 := es116.2.2.2.2.2.2.2.2.2.2.2.2.2.2.2.2.2.2.2
              have Zs116 : ∀ i, s116 0 i = s0 0 i := fun i => (h_upo us116 rfl i).trans (Zs87 i)
              refine h_iload (pc' := 61) rfl rfl rfl ?_
              refine h_iret rfl rfl (h_Kv ?_)
              refine h_iret rfl rfl (h_Kv ?_)
              refine h_pop (pc' := 535) rfl rfl rfl ?_
              refine h_goto (pc' := 1441) rfl rfl ?_
              exact kk _ Is116 (by first | exact d_tape.le j0 (Int.le_antisymm (by omega) (by omega)) (by omega) (fun j => (h_upo us116 rfl j).trans ((h_upo us87 rfl j))) (fun j => (h_upo us116 rfl j).trans ((h_upo us87 rfl j))) | (exfalso; omega)) (Int.le_antisymm (by omega) (by omega)) (c_R.par j2 I0 (by omega) (by omega) (Int.le_antisymm (by omega) (by omega)) (by omega) (fun j => (h_upo us116 rfl j).trans ((h_upi us87 j)))  (fun j => (h_upi us116 j).trans (congrArg (fun z => if j = (6 + (s0 0 (b3 + 1))) then 0 else z) ((h_upo us87 rfl j))))  (fun p j n0 n1 => (h_upq us116 n1 j).trans ((h_upq us87 n0 j))))
          · refine h_iload_n (pc' := 62) rfl rfl rfl ?_
            refine h_zlt (tg := 94) (pc' := 65) rfl rfl rfl hz6 (fun c117 => ?_) (fun c117 => ?_)
            · refine h_iconst (pc' := 95) (x := (Int32.ofInt (-1))) rfl rfl rfl ?_
              refine h_iret rfl rfl (h_Kv ?_)
              refine h_pop (pc' := 515) rfl rfl rfl ?_
              refine h_aload_n (pc' := 516) rfl rfl rfl ?_
              refine h_aload_n (pc' := 517) rfl rfl rfl ?_
              refine h_iload_n (pc' := 518) rfl rfl rfl ?_
              refine h_iconst (pc' := 519) (x := (Int32.ofInt 1)) rfl rfl rfl ?_
              refine h_iadd (pc' := 520) rfl rfl hy3 ci_1 rfl (by omega) (by omega) (fun z118 hz118 => ?_)
              refine h_iald (pc' := 521) (v := s0 0 (b3 + 1)) rfl rfl rfl hz118 (by omega) (by omega) rfl (fun z119 hz119 => ?_)
              have tz119 := h_rgv hz119
              refine h_aload_n (pc' := 522) rfl rfl rfl ?_
              refine h_iload_n (pc' := 523) rfl rfl rfl ?_
              refine h_iconst (pc' := 524) (x := (Int32.ofInt 2)) rfl rfl rfl ?_
              refine h_iadd (pc' := 525) rfl rfl hy3 ci_2 rfl (by omega) (by omega) (fun z120 hz120 => ?_)
              refine h_iald (pc' := 526) (v := s0 0 (b3 + 2)) rfl rfl rfl hz120 (by omega) (by omega) rfl (fun z121 hz121 => ?_)
              have tz121 := h_rgv hz121
              refine h_aload_n (pc' := 527) rfl rfl rfl ?_
              refine h_iload_n (pc' := 528) rfl rfl rfl ?_
              refine h_iconst (pc' := 529) (x := (Int32.ofInt 3)) rfl rfl rfl ?_
              refine h_iadd (pc' := 530) rfl rfl hy3 ci_3 rfl (by omega) (by omega) (fun z122 hz122 => ?_)
              refine h_iald (pc' := 531) (v := s0 0 (b3 + 3)) rfl rfl rfl hz122 (by omega) (by omega) rfl (fun z123 hz123 => ?_)
              have tz123 := h_rgv hz123
              refine h_call (sp := false) (pc' := 534) (M := [(0, .ref 98), (1, .int z119), (2, .int z121), (3, .int z123)]) rfl rfl rfl rfl rfl rfl rfl rfl ?_
              refine h_iload_n (pc' := 1) rfl rfl rfl ?_
              refine h_iconst (pc' := 2) (x := (Int32.ofInt 1)) rfl rfl rfl ?_
              refine h_cne (tg := 48) (pc' := 5) rfl rfl rfl hz121 ci_1 (fun c124 => absurd (Int.le_antisymm (by omega) (by omega)) c124) (fun c124 => ?_)
              refine h_aload_n (pc' := 6) rfl rfl rfl ?_
              refine h_aload_n (pc' := 7) rfl rfl rfl ?_
              refine h_iload_n (pc' := 8) rfl rfl rfl ?_
              refine h_call (sp := false) (pc' := 11) (M := [(0, .ref 98), (1, .int z119)]) rfl rfl rfl rfl rfl rfl rfl rfl ?_
              refine h_iload_n (pc' := 1) rfl rfl rfl ?_
              refine h_i2l (pc' := 2) rfl rfl hz119 (fun z125 hz125 => ?_)
              refine h_lconst (pc' := 3) (x := (Int64.ofInt 0)) rfl rfl rfl ?_
              refine h_aload_n (pc' := 4) rfl rfl rfl ?_
              refine h_getI (pc' := 7) (v := s0 98 1) rfl rfl rfl rfl rfl rfl (fun z126 hz126 => ?_)
              have tz126 := tf_98_1 I0
              refine h_iconst (pc' := 8) (x := (Int32.ofInt 1)) rfl rfl rfl ?_
              refine h_isub (pc' := 9) rfl rfl hz126 ci_1 rfl (by omega) (by omega) (fun z127 hz127 => ?_)
              refine h_i2l (pc' := 10) rfl rfl hz127 (fun z128 hz128 => ?_)
              refine h_calls (pc' := 13) (M := [(0, .long z125), (2, .long (Int64.ofInt 0)), (4, .long z128)]) rfl rfl rfl rfl rfl rfl ?_
              refine h_lload_n (pc' := 1) rfl rfl rfl ?_
              refine h_lload_n (pc' := 2) rfl rfl rfl ?_
              refine h_lcmp (pc' := 3) rfl rfl hz125 cl_0 (fun z129 hz129 => ?_)
              refine h_zlt (tg := 17) (pc' := 6) rfl rfl rfl rfl (fun c130 => absurd c130 (by omega)) (fun c130 => ?_)
              replace c130 := (h_lcr hz129).2.1 c130
              clear hz129
              refine h_lload_n (pc' := 7) rfl rfl rfl ?_
              refine h_lload (pc' := 9) rfl rfl rfl ?_
              refine h_lcmp (pc' := 10) rfl rfl hz125 hz128 (fun z131 hz131 => ?_)
              refine h_zgt (tg := 17) (pc' := 13) rfl rfl rfl rfl (fun c132 => absurd c132 (by omega)) (fun c132 => ?_)
              replace c132 := (h_lcr hz131).2.2.1 c132
              clear hz131
              refine h_iconst (pc' := 14) (x := (Int32.ofInt 1)) rfl rfl rfl ?_
              refine h_goto (pc' := 18) rfl rfl ?_
              refine h_zret rfl rfl ci_1 (by omega) (h_Kv ?_)
              refine h_zret rfl rfl ci_1 (by omega) (h_Kv ?_)
              refine h_zeq (tg := 37) (pc' := 14) rfl rfl rfl ci_1 (fun c133 => absurd c133 (by omega)) (fun c133 => ?_)
              refine h_iload_n (pc' := 15) rfl rfl rfl ?_
              refine h_bipush (pc' := 17) (x := (Int32.ofInt (-4))) rfl rfl cb_m4 ?_
              refine h_ceq (tg := 33) (pc' := 20) rfl rfl rfl hz123 ci_m4 (fun c134 => absurd c134 (by omega)) (fun c134 => ?_)
              refine h_iload_n (pc' := 21) rfl rfl rfl ?_
              refine h_i2l (pc' := 22) rfl rfl hz123 (fun z135 hz135 => ?_)
              refine h_lconst (pc' := 23) (x := (Int64.ofInt 0)) rfl rfl rfl ?_
              refine h_iload_n (pc' := 24) rfl rfl rfl ?_
              refine h_iconst (pc' := 25) (x := (Int32.ofInt 1)) rfl rfl rfl ?_
              refine h_isub (pc' := 26) rfl rfl hz119 ci_1 rfl (by have g0 := h_rgv hz119; omega) (by have g0 := h_rgv hz119; omega) (fun z136 hz136 => ?_)
              refine h_i2l (pc' := 27) rfl rfl hz136 (fun z137 hz137 => ?_)
              refine h_calls (pc' := 30) (M := [(0, .long z135), (2, .long (Int64.ofInt 0)), (4, .long z137)]) rfl rfl rfl rfl rfl rfl ?_
              refine h_lload_n (pc' := 1) rfl rfl rfl ?_
              refine h_lload_n (pc' := 2) rfl rfl rfl ?_
              refine h_lcmp (pc' := 3) rfl rfl hz135 cl_0 (fun z138 hz138 => ?_)
              refine h_zlt (tg := 17) (pc' := 6) rfl rfl rfl rfl (fun c139 => ?_) (fun c139 => absurd c139 (by omega))
              replace c139 := (h_lcr hz138).1 c139
              clear hz138
              refine h_iconst (pc' := 18) (x := (Int32.ofInt 0)) rfl rfl rfl ?_
              refine h_zret rfl rfl ci_0 (by omega) (h_Kv ?_)
              refine h_zeq (tg := 37) (pc' := 33) rfl rfl rfl ci_0 (fun c140 => ?_) (fun c140 => absurd (Int.le_antisymm (by omega) (by omega)) c140)
              refine h_iconst (pc' := 38) (x := (Int32.ofInt 0)) rfl rfl rfl ?_
              refine h_bipush (pc' := 40) (x := (Int32.ofInt 6)) rfl rfl cb_6 ?_
              refine h_iload_n (pc' := 41) rfl rfl rfl ?_
              refine h_iadd (pc' := 42) rfl rfl ci_6 hz119 rfl (by have g0 := h_rgv hz119; omega) (by have g0 := h_rgv hz119; omega) (fun z141 hz141 => ?_)
              refine h_iload_n (pc' := 43) rfl rfl rfl ?_
              refine h_iconst (pc' := 44) (x := (Int32.ofInt 1)) rfl rfl rfl ?_
              refine h_call (sp := false) (pc' := 47) (M := [(0, .ref 98), (1, .int (Int32.ofInt 0)), (2, .int z141), (3, .int z123), (4, .int (Int32.ofInt 1))]) rfl rfl rfl rfl rfl rfl rfl rfl ?_
              refine h_iload_n (pc' := 1) rfl rfl rfl ?_
              refine h_zne (tg := 6) (pc' := 4) rfl rfl rfl ci_0 (fun c142 => absurd (Int.le_antisymm (by omega) (by omega)) c142) (fun c142 => ?_)
              refine h_iconst (pc' := 5) (x := (Int32.ofInt (-1))) rfl rfl rfl ?_
              refine h_iret rfl rfl (h_Kv ?_)
              refine h_iret rfl rfl (h_Kv ?_)
              refine h_pop (pc' := 535) rfl rfl rfl ?_
              refine h_goto (pc' := 1441) rfl rfl ?_
              exact kk _ I0 (by first | exact d_tape.le j0 (Int.le_antisymm (by omega) (by omega)) (by omega) (fun j => rfl) (fun j => rfl) | (exfalso; omega)) (Int.le_antisymm (by omega) (by omega)) j2
            · refine h_iload_n (pc' := 66) rfl rfl rfl ?_
              refine h_iload_n (pc' := 67) rfl rfl rfl ?_
              refine h_cge (tg := 94) (pc' := 70) rfl rfl rfl hz6 hz2 (fun c143 => ?_) (fun c143 => ?_)
              · refine h_iconst (pc' := 95) (x := (Int32.ofInt (-1))) rfl rfl rfl ?_
                refine h_iret rfl rfl (h_Kv ?_)
                refine h_pop (pc' := 515) rfl rfl rfl ?_
                refine h_aload_n (pc' := 516) rfl rfl rfl ?_
                refine h_aload_n (pc' := 517) rfl rfl rfl ?_
                refine h_iload_n (pc' := 518) rfl rfl rfl ?_
                refine h_iconst (pc' := 519) (x := (Int32.ofInt 1)) rfl rfl rfl ?_
                refine h_iadd (pc' := 520) rfl rfl hy3 ci_1 rfl (by omega) (by omega) (fun z144 hz144 => ?_)
                refine h_iald (pc' := 521) (v := s0 0 (b3 + 1)) rfl rfl rfl hz144 (by omega) (by omega) rfl (fun z145 hz145 => ?_)
                have tz145 := h_rgv hz145
                refine h_aload_n (pc' := 522) rfl rfl rfl ?_
                refine h_iload_n (pc' := 523) rfl rfl rfl ?_
                refine h_iconst (pc' := 524) (x := (Int32.ofInt 2)) rfl rfl rfl ?_
                refine h_iadd (pc' := 525) rfl rfl hy3 ci_2 rfl (by omega) (by omega) (fun z146 hz146 => ?_)
                refine h_iald (pc' := 526) (v := s0 0 (b3 + 2)) rfl rfl rfl hz146 (by omega) (by omega) rfl (fun z147 hz147 => ?_)
                have tz147 := h_rgv hz147
                refine h_aload_n (pc' := 527) rfl rfl rfl ?_
                refine h_iload_n (pc' := 528) rfl rfl rfl ?_
                refine h_iconst (pc' := 529) (x := (Int32.ofInt 3)) rfl rfl rfl ?_
                refine h_iadd (pc' := 530) rfl rfl hy3 ci_3 rfl (by omega) (by omega) (fun z148 hz148 => ?_)
                refine h_iald (pc' := 531) (v := s0 0 (b3 + 3)) rfl rfl rfl hz148 (by omega) (by omega) rfl (fun z149 hz149 => ?_)
                have tz149 := h_rgv hz149
                refine h_call (sp := false) (pc' := 534) (M := [(0, .ref 98), (1, .int z145), (2, .int z147), (3, .int z149)]) rfl rfl rfl rfl rfl rfl rfl rfl ?_
                refine h_iload_n (pc' := 1) rfl rfl rfl ?_
                refine h_iconst (pc' := 2) (x := (Int32.ofInt 1)) rfl rfl rfl ?_
                refine h_cne (tg := 48) (pc' := 5) rfl rfl rfl hz147 ci_1 (fun c150 => absurd (Int.le_antisymm (by omega) (by omega)) c150) (fun c150 => ?_)
                refine h_aload_n (pc' := 6) rfl rfl rfl ?_
                refine h_aload_n (pc' := 7) rfl rfl rfl ?_
                refine h_iload_n (pc' := 8) rfl rfl rfl ?_
                refine h_call (sp := false) (pc' := 11) (M := [(0, .ref 98), (1, .int z145)]) rfl rfl rfl rfl rfl rfl rfl rfl ?_
                refine h_iload_n (pc' := 1) rfl rfl rfl ?_
                refine h_i2l (pc' := 2) rfl rfl hz145 (fun z151 hz151 => ?_)
                refine h_lconst (pc' := 3) (x := (Int64.ofInt 0)) rfl rfl rfl ?_
                refine h_aload_n (pc' := 4) rfl rfl rfl ?_
                refine h_getI (pc' := 7) (v := s0 98 1) rfl rfl rfl rfl rfl rfl (fun z152 hz152 => ?_)
                have tz152 := tf_98_1 I0
                refine h_iconst (pc' := 8) (x := (Int32.ofInt 1)) rfl rfl rfl ?_
                refine h_isub (pc' := 9) rfl rfl hz152 ci_1 rfl (by omega) (by omega) (fun z153 hz153 => ?_)
                refine h_i2l (pc' := 10) rfl rfl hz153 (fun z154 hz154 => ?_)
                refine h_calls (pc' := 13) (M := [(0, .long z151), (2, .long (Int64.ofInt 0)), (4, .long z154)]) rfl rfl rfl rfl rfl rfl ?_
                refine h_lload_n (pc' := 1) rfl rfl rfl ?_
                refine h_lload_n (pc' := 2) rfl rfl rfl ?_
                refine h_lcmp (pc' := 3) rfl rfl hz151 cl_0 (fun z155 hz155 => ?_)
                refine h_zlt (tg := 17) (pc' := 6) rfl rfl rfl rfl (fun c156 => absurd c156 (by omega)) (fun c156 => ?_)
                replace c156 := (h_lcr hz155).2.1 c156
                clear hz155
                refine h_lload_n (pc' := 7) rfl rfl rfl ?_
                refine h_lload (pc' := 9) rfl rfl rfl ?_
                refine h_lcmp (pc' := 10) rfl rfl hz151 hz154 (fun z157 hz157 => ?_)
                refine h_zgt (tg := 17) (pc' := 13) rfl rfl rfl rfl (fun c158 => absurd c158 (by omega)) (fun c158 => ?_)
                replace c158 := (h_lcr hz157).2.2.1 c158
                clear hz157
                refine h_iconst (pc' := 14) (x := (Int32.ofInt 1)) rfl rfl rfl ?_
                refine h_goto (pc' := 18) rfl rfl ?_
                refine h_zret rfl rfl ci_1 (by omega) (h_Kv ?_)
                refine h_zret rfl rfl ci_1 (by omega) (h_Kv ?_)
                refine h_zeq (tg := 37) (pc' := 14) rfl rfl rfl ci_1 (fun c159 => absurd c159 (by omega)) (fun c159 => ?_)
                refine h_iload_n (pc' := 15) rfl rfl rfl ?_
                refine h_bipush (pc' := 17) (x := (Int32.ofInt (-4))) rfl rfl cb_m4 ?_
                refine h_ceq (tg := 33) (pc' := 20) rfl rfl rfl hz149 ci_m4 (fun c160 => absurd c160 (by omega)) (fun c160 => ?_)
                refine h_iload_n (pc' := 21) rfl rfl rfl ?_
                refine h_i2l (pc' := 22) rfl rfl hz149 (fun z161 hz161 => ?_)
                refine h_lconst (pc' := 23) (x := (Int64.ofInt 0)) rfl rfl rfl ?_
                refine h_iload_n (pc' := 24) rfl rfl rfl ?_
                refine h_iconst (pc' := 25) (x := (Int32.ofInt 1)) rfl rfl rfl ?_
                refine h_isub (pc' := 26) rfl rfl hz145 ci_1 rfl (by have g0 := h_rgv hz145; omega) (by have g0 := h_rgv hz145; omega) (fun z162 hz162 => ?_)
                refine h_i2l (pc' := 27) rfl rfl hz162 (fun z163 hz163 => ?_)
                refine h_calls (pc' := 30) (M := [(0, .long z161), (2, .long (Int64.ofInt 0)), (4, .long z163)]) rfl rfl rfl rfl rfl rfl ?_
                refine h_lload_n (pc' := 1) rfl rfl rfl ?_
                refine h_lload_n (pc' := 2) rfl rfl rfl ?_
                refine h_lcmp (pc' := 3) rfl rfl hz161 cl_0 (fun z164 hz164 => ?_)
                refine h_zlt (tg := 17) (pc' := 6) rfl rfl rfl rfl (fun c165 => absurd c165 (by omega)) (fun c165 => ?_)
                replace c165 := (h_lcr hz164).2.1 c165
                clear hz164
                refine h_lload_n (pc' := 7) rfl rfl rfl ?_
                refine h_lload (pc' := 9) rfl rfl rfl ?_
                refine h_lcmp (pc' := 10) rfl rfl hz161 hz163 (fun z166 hz166 => ?_)
                refine h_zgt (tg := 17) (pc' := 13) rfl rfl rfl rfl (fun c167 => ?_) (fun c167 => absurd c167 (by omega))
                replace c167 := (h_lcr hz166).2.2.2.1 c167
                clear hz166
                refine h_iconst (pc' := 18) (x := (Int32.ofInt 0)) rfl rfl rfl ?_
                refine h_zret rfl rfl ci_0 (by omega) (h_Kv ?_)
                refine h_zeq (tg := 37) (pc' := 33) rfl rfl rfl ci_0 (fun c168 => ?_) (fun c168 => absurd (Int.le_antisymm (by omega) (by omega)) c168)
                refine h_iconst (pc' := 38) (x := (Int32.ofInt 0)) rfl rfl rfl ?_
                refine h_bipush (pc' := 40) (x := (Int32.ofInt 6)) rfl rfl cb_6 ?_
                refine h_iload_n (pc' := 41) rfl rfl rfl ?_
                refine h_iadd (pc' := 42) rfl rfl ci_6 hz145 rfl (by have g0 := h_rgv hz145; omega) (by have g0 := h_rgv hz145; omega) (fun z169 hz169 => ?_)
                refine h_iload_n (pc' := 43) rfl rfl rfl ?_
                refine h_iconst (pc' := 44) (x := (Int32.ofInt 1)) rfl rfl rfl ?_
                refine h_call (sp := false) (pc' := 47) (M := [(0, .ref 98), (1, .int (Int32.ofInt 0)), (2, .int z169), (3, .int z149), (4, .int (Int32.ofInt 1))]) rfl rfl rfl rfl rfl rfl rfl rfl ?_
                refine h_iload_n (pc' := 1) rfl rfl rfl ?_
                refine h_zne (tg := 6) (pc' := 4) rfl rfl rfl ci_0 (fun c170 => absurd (Int.le_antisymm (by omega) (by omega)) c170) (fun c170 => ?_)
                refine h_iconst (pc' := 5) (x := (Int32.ofInt (-1))) rfl rfl rfl ?_
                refine h_iret rfl rfl (h_Kv ?_)
                refine h_iret rfl rfl (h_Kv ?_)
                refine h_pop (pc' := 535) rfl rfl rfl ?_
                refine h_goto (pc' := 1441) rfl rfl ?_
                exact kk _ I0 (by first | exact d_tape.le j0 (Int.le_antisymm (by omega) (by omega)) (by omega) (fun j => rfl) (fun j => rfl) | (exfalso; omega)) (Int.le_antisymm (by omega) (by omega)) j2
              · refine h_aload_n (pc' := 71) rfl rfl rfl ?_
                refine h_getR (pc' := 74) rfl rfl rfl rfl rfl ?_
                refine h_getR (pc' := 77) rfl rfl rfl rfl rfl ?_
                refine h_iload_n (pc' := 78) rfl rfl rfl ?_
                refine h_iald (pc' := 79) (v := s0 12 (s0 0 (b3 + 1))) rfl rfl rfl hz2 (by omega) (by omega) rfl (fun z171 hz171 => ?_)
                have tz171 := ty_12 I0 (s0 0 (b3 + 1))
                refine h_istore (pc' := 81) (M := [(4, .int z171), (0, .ref 9), (1, .int z2), (2, .int z4), (3, .int z6)]) rfl rfl rfl rfl ?_
                refine h_aload_n (pc' := 82) rfl rfl rfl ?_
                refine h_getR (pc' := 85) rfl rfl rfl rfl rfl ?_
                refine h_getR (pc' := 88) rfl rfl rfl rfl rfl ?_
                refine h_iload_n (pc' := 89) rfl rfl rfl ?_
                refine h_iload_n (pc' := 90) rfl rfl rfl ?_
                refine h_iast (pc' := 91) rfl rfl rfl rfl hz2 (by omega) (by omega) hz6 (h_fgt (E := fun s => s 64 1 = s0 64 1 ∧ s 98 11 = s0 98 11 ∧ s 64 4 = s0 64 4 ∧ s 98 16 = s0 98 16 ∧ s 63 2 = s0 63 2 ∧ s 10 8 = s0 10 8 ∧ s 98 1 = s0 98 1 ∧ s 10 9 = s0 10 9 ∧ s 98 2 = s0 98 2 ∧ s 10 10 = s0 10 10 ∧ s 99 43 = s0 99 43 ∧ s 13 2 = s0 13 2 ∧ s 99 18 = s0 99 18 ∧ s 16 2 = s0 16 2 ∧ s 99 25 = s0 99 25 ∧ s 62 0 = s0 62 0 ∧ s 110 0 = s0 110 0 ∧ s 62 1 = s0 62 1 ∧ s 110 1 = s0 110 1 ∧ s = h_up s0 12 (s0 0 (b3 + 1)) (s0 0 (b3 + 3))) _ (in_12 I0 (by omega)) (F0_.up rfl) ⟨rfl, rfl, rfl, rfl, rfl, rfl, rfl, rfl, rfl, rfl, rfl, rfl, rfl, rfl, rfl, rfl, rfl, rfl, rfl, rfl⟩ (fun s172 Is172 Fs172 (es172 : s172 64 1 = s0 64 1 ∧ s172 98 11 = s0 98 11 ∧ s172 64 4 = s0 64 4 ∧ s172 98 16 = s0 98 16 ∧ s172 63 2 = s0 63 2 ∧ s172 10 8 = s0 10 8 ∧ s172 98 1 = s0 98 1 ∧ s172 10 9 = s0 10 9 ∧ s172 98 2 = s0 98 2 ∧ s172 10 10 = s0 10 10 ∧ s172 99 43 = s0 99 43 ∧ s172 13 2 = s0 13 2 ∧ s172 99 18 = s0 99 18 ∧ s172 16 2 = s0 16 2 ∧ s172 99 25 = s0 99 25 ∧ s172 62 0 = s0 62 0 ∧ s172 110 0 = s0 110 0 ∧ s172 62 1 = s0 62 1 ∧ s172 110 1 = s0 110 1 ∧ s172 = h_up s0 12 (s0 0 (b3 + 1)) (s0 0 (b3 + 3))) => ?_))
                have us172 := es172.2.2.2.2.2.2.2.2.2.2.2.2.2.2.2.2.2.2.2
                have Zs172 : ∀ i, s172 0 i = s0 0 i := fun i => (h_upo us172 rfl i).trans rfl
                refine h_iload (pc' := 93) rfl rfl rfl ?_
                refine h_iret rfl rfl (h_Kv ?_)
                refine h_pop (pc' := 515) rfl rfl rfl ?_
                refine h_aload_n (pc' := 516) rfl rfl rfl ?_
                refine h_aload_n (pc' := 517) rfl rfl rfl ?_
                refine h_iload_n (pc' := 518) rfl rfl rfl ?_
                refine h_iconst (pc' := 519) (x := (Int32.ofInt 1)) rfl rfl rfl ?_
                refine h_iadd (pc' := 520) rfl rfl hy3 ci_1 rfl (by omega) (by omega) (fun z173 hz173 => ?_)
                refine h_iald (pc' := 521) (v := s0 0 (b3 + 1)) rfl rfl rfl hz173 (by omega) (by omega) (Zs172 _) (fun z174 hz174 => ?_)
                have tz174 := h_rgv hz174
                refine h_aload_n (pc' := 522) rfl rfl rfl ?_
                refine h_iload_n (pc' := 523) rfl rfl rfl ?_
                refine h_iconst (pc' := 524) (x := (Int32.ofInt 2)) rfl rfl rfl ?_
                refine h_iadd (pc' := 525) rfl rfl hy3 ci_2 rfl (by omega) (by omega) (fun z175 hz175 => ?_)
                refine h_iald (pc' := 526) (v := s0 0 (b3 + 2)) rfl rfl rfl hz175 (by omega) (by omega) (Zs172 _) (fun z176 hz176 => ?_)
                have tz176 := h_rgv hz176
                refine h_aload_n (pc' := 527) rfl rfl rfl ?_
                refine h_iload_n (pc' := 528) rfl rfl rfl ?_
                refine h_iconst (pc' := 529) (x := (Int32.ofInt 3)) rfl rfl rfl ?_
                refine h_iadd (pc' := 530) rfl rfl hy3 ci_3 rfl (by omega) (by omega) (fun z177 hz177 => ?_)
                refine h_iald (pc' := 531) (v := s0 0 (b3 + 3)) rfl rfl rfl hz177 (by omega) (by omega) (Zs172 _) (fun z178 hz178 => ?_)
                have tz178 := h_rgv hz178
                refine h_call (sp := false) (pc' := 534) (M := [(0, .ref 98), (1, .int z174), (2, .int z176), (3, .int z178)]) rfl rfl rfl rfl rfl rfl rfl rfl ?_
                refine h_iload_n (pc' := 1) rfl rfl rfl ?_
                refine h_iconst (pc' := 2) (x := (Int32.ofInt 1)) rfl rfl rfl ?_
                refine h_cne (tg := 48) (pc' := 5) rfl rfl rfl hz176 ci_1 (fun c179 => absurd (Int.le_antisymm (by omega) (by omega)) c179) (fun c179 => ?_)
                refine h_aload_n (pc' := 6) rfl rfl rfl ?_
                refine h_aload_n (pc' := 7) rfl rfl rfl ?_
                refine h_iload_n (pc' := 8) rfl rfl rfl ?_
                refine h_call (sp := false) (pc' := 11) (M := [(0, .ref 98), (1, .int z174)]) rfl rfl rfl rfl rfl rfl rfl rfl ?_
                refine h_iload_n (pc' := 1) rfl rfl rfl ?_
                refine h_i2l (pc' := 2) rfl rfl hz174 (fun z180 hz180 => ?_)
                refine h_lconst (pc' := 3) (x := (Int64.ofInt 0)) rfl rfl rfl ?_
                refine h_aload_n (pc' := 4) rfl rfl rfl ?_
                refine h_getI (pc' := 7) (v := s0 98 1) rfl rfl rfl rfl rfl es172.2.2.2.2.2.2.1 (fun z181 hz181 => ?_)
                have tz181 := tf_98_1 I0
                refine h_iconst (pc' := 8) (x := (Int32.ofInt 1)) rfl rfl rfl ?_
                refine h_isub (pc' := 9) rfl rfl hz181 ci_1 rfl (by omega) (by omega) (fun z182 hz182 => ?_)
                refine h_i2l (pc' := 10) rfl rfl hz182 (fun z183 hz183 => ?_)
                refine h_calls (pc' := 13) (M := [(0, .long z180), (2, .long (Int64.ofInt 0)), (4, .long z183)]) rfl rfl rfl rfl rfl rfl ?_
                refine h_lload_n (pc' := 1) rfl rfl rfl ?_
                refine h_lload_n (pc' := 2) rfl rfl rfl ?_
                refine h_lcmp (pc' := 3) rfl rfl hz180 cl_0 (fun z184 hz184 => ?_)
                refine h_zlt (tg := 17) (pc' := 6) rfl rfl rfl rfl (fun c185 => absurd c185 (by omega)) (fun c185 => ?_)
                replace c185 := (h_lcr hz184).2.1 c185
                clear hz184
                refine h_lload_n (pc' := 7) rfl rfl rfl ?_
                refine h_lload (pc' := 9) rfl rfl rfl ?_
                refine h_lcmp (pc' := 10) rfl rfl hz180 hz183 (fun z186 hz186 => ?_)
                refine h_zgt (tg := 17) (pc' := 13) rfl rfl rfl rfl (fun c187 => absurd c187 (by omega)) (fun c187 => ?_)
                replace c187 := (h_lcr hz186).2.2.1 c187
                clear hz186
                refine h_iconst (pc' := 14) (x := (Int32.ofInt 1)) rfl rfl rfl ?_
                refine h_goto (pc' := 18) rfl rfl ?_
                refine h_zret rfl rfl ci_1 (by omega) (h_Kv ?_)
                refine h_zret rfl rfl ci_1 (by omega) (h_Kv ?_)
                refine h_zeq (tg := 37) (pc' := 14) rfl rfl rfl ci_1 (fun c188 => absurd c188 (by omega)) (fun c188 => ?_)
                refine h_iload_n (pc' := 15) rfl rfl rfl ?_
                refine h_bipush (pc' := 17) (x := (Int32.ofInt (-4))) rfl rfl cb_m4 ?_
                refine h_ceq (tg := 33) (pc' := 20) rfl rfl rfl hz178 ci_m4 (fun c189 => absurd c189 (by omega)) (fun c189 => ?_)
                refine h_iload_n (pc' := 21) rfl rfl rfl ?_
                refine h_i2l (pc' := 22) rfl rfl hz178 (fun z190 hz190 => ?_)
                refine h_lconst (pc' := 23) (x := (Int64.ofInt 0)) rfl rfl rfl ?_
                refine h_iload_n (pc' := 24) rfl rfl rfl ?_
                refine h_iconst (pc' := 25) (x := (Int32.ofInt 1)) rfl rfl rfl ?_
                refine h_isub (pc' := 26) rfl rfl hz174 ci_1 rfl (by have g0 := h_rgv hz174; omega) (by have g0 := h_rgv hz174; omega) (fun z191 hz191 => ?_)
                refine h_i2l (pc' := 27) rfl rfl hz191 (fun z192 hz192 => ?_)
                refine h_calls (pc' := 30) (M := [(0, .long z190), (2, .long (Int64.ofInt 0)), (4, .long z192)]) rfl rfl rfl rfl rfl rfl ?_
                refine h_lload_n (pc' := 1) rfl rfl rfl ?_
                refine h_lload_n (pc' := 2) rfl rfl rfl ?_
                refine h_lcmp (pc' := 3) rfl rfl hz190 cl_0 (fun z193 hz193 => ?_)
                refine h_zlt (tg := 17) (pc' := 6) rfl rfl rfl rfl (fun c194 => absurd c194 (by omega)) (fun c194 => ?_)
                replace c194 := (h_lcr hz193).2.1 c194
                clear hz193
                refine h_lload_n (pc' := 7) rfl rfl rfl ?_
                refine h_lload (pc' := 9) rfl rfl rfl ?_
                refine h_lcmp (pc' := 10) rfl rfl hz190 hz192 (fun z195 hz195 => ?_)
                refine h_zgt (tg := 17) (pc' := 13) rfl rfl rfl rfl (fun c196 => absurd c196 (by omega)) (fun c196 => ?_)
                replace c196 := (h_lcr hz195).2.2.1 c196
                clear hz195
                refine h_iconst (pc' := 14) (x := (Int32.ofInt 1)) rfl rfl rfl ?_
                refine h_goto (pc' := 18) rfl rfl ?_
                refine h_zret rfl rfl ci_1 (by omega) (h_Kv ?_)
                refine h_zeq (tg := 37) (pc' := 33) rfl rfl rfl ci_1 (fun c197 => absurd c197 (by omega)) (fun c197 => ?_)
                refine h_iconst (pc' := 34) (x := (Int32.ofInt 1)) rfl rfl rfl ?_
                refine h_goto (pc' := 38) rfl rfl ?_
                refine h_bipush (pc' := 40) (x := (Int32.ofInt 6)) rfl rfl cb_6 ?_
                refine h_iload_n (pc' := 41) rfl rfl rfl ?_
                refine h_iadd (pc' := 42) rfl rfl ci_6 hz174 rfl (by have g0 := h_rgv hz174; omega) (by have g0 := h_rgv hz174; omega) (fun z198 hz198 => ?_)
                refine h_iload_n (pc' := 43) rfl rfl rfl ?_
                refine h_iconst (pc' := 44) (x := (Int32.ofInt 1)) rfl rfl rfl ?_
                refine h_call (sp := false) (pc' := 47) (M := [(0, .ref 98), (1, .int (Int32.ofInt 1)), (2, .int z198), (3, .int z178), (4, .int (Int32.ofInt 1))]) rfl rfl rfl rfl rfl rfl rfl rfl ?_
                refine h_iload_n (pc' := 1) rfl rfl rfl ?_
                refine h_zne (tg := 6) (pc' := 4) rfl rfl rfl ci_1 (fun c199 => ?_) (fun c199 => absurd c199 (by omega))
                refine h_iload (pc' := 8) rfl rfl rfl ?_
                refine h_zne (tg := 20) (pc' := 11) rfl rfl rfl ci_1 (fun c200 => ?_) (fun c200 => absurd c200 (by omega))
                refine h_aload_n (pc' := 21) rfl rfl rfl ?_
                refine h_getR (pc' := 24) rfl rfl rfl rfl rfl ?_
                refine h_iload_n (pc' := 25) rfl rfl rfl ?_
                refine h_iald (pc' := 26) (v := s172 99 (6 + (s0 0 (b3 + 1)))) rfl rfl rfl hz198 (by omega) (by omega) rfl (fun z201 hz201 => ?_)
                have tz201 := ty_99_1 Is172 (6 + (s0 0 (b3 + 1))) (by omega)
                refine h_calls (pc' := 29) (M := [(0, .int z201)]) rfl rfl rfl rfl rfl rfl ?_
                refine h_iload_n (pc' := 1) rfl rfl rfl ?_
                refine h_zne (tg := 9) (pc' := 4) rfl rfl rfl hz201 (fun c202 => ?_) (fun c202 => ?_)
                · refine h_iload_n (pc' := 10) rfl rfl rfl ?_
                  refine h_iconst (pc' := 11) (x := (Int32.ofInt 1)) rfl rfl rfl ?_
                  refine h_isub (pc' := 12) rfl rfl hz201 ci_1 rfl (by omega) (by omega) (fun z203 hz203 => ?_)
                  refine h_iret rfl rfl (h_Kv ?_)
                  refine h_istore (pc' := 31) (M := [(5, .int z203), (0, .ref 98), (1, .int (Int32.ofInt 1)), (2, .int z198), (3, .int z178), (4, .int (Int32.ofInt 1))]) rfl rfl rfl rfl ?_
                  refine h_aload_n (pc' := 32) rfl rfl rfl ?_
                  refine h_getR (pc' := 35) rfl rfl rfl rfl rfl ?_
                  refine h_iload_n (pc' := 36) rfl rfl rfl ?_
                  refine h_iload (pc' := 38) rfl rfl rfl ?_
                  refine h_zne (tg := 45) (pc' := 41) rfl rfl rfl ci_1 (fun c204 => ?_) (fun c204 => absurd c204 (by omega))
                  refine h_iload_n (pc' := 46) rfl rfl rfl ?_
                  refine h_bipush (pc' := 48) (x := (Int32.ofInt (-4))) rfl rfl cb_m4 ?_
                  refine h_cne (tg := 55) (pc' := 51) rfl rfl rfl hz178 ci_m4 (fun c205 => ?_) (fun c205 => absurd c205 (by omega))
                  refine h_iload_n (pc' := 56) rfl rfl rfl ?_
                  refine h_iconst (pc' := 57) (x := (Int32.ofInt 1)) rfl rfl rfl ?_
                  refine h_iadd (pc' := 58) rfl rfl hz178 ci_1 rfl (by have g0 := h_rgv hz178; omega) (by have g0 := h_rgv hz178; omega) (fun z206 hz206 => ?_)
                  refine h_iast (pc' := 59) rfl rfl rfl rfl hz198 (by omega) (by omega) hz206 (h_fgt (E := fun s => s 64 1 = s0 64 1 ∧ s 98 11 = s0 98 11 ∧ s 64 4 = s0 64 4 ∧ s 98 16 = s0 98 16 ∧ s 63 2 = s0 63 2 ∧ s 10 8 = s0 10 8 ∧ s 98 1 = s0 98 1 ∧ s 10 9 = s0 10 9 ∧ s 98 2 = s0 98 2 ∧ s 10 10 = s0 10 10 ∧ s 99 43 = s0 99 43 ∧ s 13 2 = s0 13 2 ∧ s 99 18 = s0 99 18 ∧ s 16 2 = s0 16 2 ∧ s 99 25 = s0 99 25 ∧ s 62 0 = s0 62 0 ∧ s 110 0 = s0 110 0 ∧ s 62 1 = s0 62 1 ∧ s 110 1 = s0 110 1 ∧ s = h_up s172 99 (6 + (s0 0 (b3 + 1))) ((s0 0 (b3 + 3)) + 1)) _ (ip_99_1 Is172 (by omega) (by omega)) (Fs172.up (k_ipg (p := 0) rfl rfl (by omega))) ⟨es172.1, es172.2.1, es172.2.2.1, es172.2.2.2.1, es172.2.2.2.2.1, es172.2.2.2.2.2.1, es172.2.2.2.2.2.2.1, es172.2.2.2.2.2.2.2.1, es172.2.2.2.2.2.2.2.2.1, es172.2.2.2.2.2.2.2.2.2.1, h_up_n2 (by omega) es172.2.2.2.2.2.2.2.2.2.2.1, es172.2.2.2.2.2.2.2.2.2.2.2.1, h_up_n2 (by omega) es172.2.2.2.2.2.2.2.2.2.2.2.2.1, es172.2.2.2.2.2.2.2.2.2.2.2.2.2.1, h_up_n2 (by omega) es172.2.2.2.2.2.2.2.2.2.2.2.2.2.2.1, es172.2.2.2.2.2.2.2.2.2.2.2.2.2.2.2.1, es172.2.2.2.2.2.2.2.2.2.2.2.2.2.2.2.2.1, es172.2.2.2.2.2.2.2.2.2.2.2.2.2.2.2.2.2.1, es172.2.2.2.2.2.2.2.2.2.2.2.2.2.2.2.2.2.2.1, rfl⟩ (fun s207 Is207 Fs207 (es207 : s207 64 1 = s0 64 1 ∧ s207 98 11 = s0 98 11 ∧ s207 64 4 = s0 64 4 ∧ s207 98 16 = s0 98 16 ∧ s207 63 2 = s0 63 2 ∧ s207 10 8 = s0 10 8 ∧ s207 98 1 = s0 98 1 ∧ s207 10 9 = s0 10 9 ∧ s207 98 2 = s0 98 2 ∧ s207 10 10 = s0 10 10 ∧ s207 99 43 = s0 99 43 ∧ s207 13 2 = s0 13 2 ∧ s207 99 18 = s0 99 18 ∧ s207 16 2 = s0 16 2 ∧ s207 99 25 = s0 99 25 ∧ s207 62 0 = s0 62 0 ∧ s207 110 0 = s0 110 0 ∧ s207 62 1 = s0 62 1 ∧ s207 110 1 = s0 110 1 ∧ s207 = h_up s172 99 (6 + (s0 0 (b3 + 1))) ((s0 0 (b3 + 3)) + 1)) => ?_))
                  clear es172
                  have us207 := es207.2.2.2.2.2.2.2.2.2.2.2.2.2.2.2.2.2.2.2
                  have Zs207 : ∀ i, s207 0 i = s0 0 i := fun i => (h_upo us207 rfl i).trans (Zs172 i)
                  refine h_iload (pc' := 61) rfl rfl rfl ?_
                  refine h_iret rfl rfl (h_Kv ?_)
                  refine h_iret rfl rfl (h_Kv ?_)
                  refine h_pop (pc' := 535) rfl rfl rfl ?_
                  refine h_goto (pc' := 1441) rfl rfl ?_
                  exact kk _ Is207 (by first | exact d_tape.le j0 (Int.le_antisymm (by omega) (by omega)) (by omega) (fun j => (h_upo us207 rfl j).trans ((h_upo us172 rfl j))) (fun j => (h_upo us207 rfl j).trans ((h_upo us172 rfl j))) | (exfalso; omega)) (Int.le_antisymm (by omega) (by omega)) (c_R.par j2 I0 (by omega) (by omega) (Int.le_antisymm (by omega) (by omega)) (by omega) (fun j => (h_upo us207 rfl j).trans ((h_upi us172 j)))  (fun j => (h_upi us207 j).trans (congrArg (fun z => if j = (6 + (s0 0 (b3 + 1))) then ((s0 0 (b3 + 3)) + 1) else z) ((h_upo us172 rfl j))))  (fun p j n0 n1 => (h_upq us207 n1 j).trans ((h_upq us172 n0 j))))
                · refine h_bipush (pc' := 6) (x := (Int32.ofInt (-4))) rfl rfl cb_m4 ?_
                  refine h_goto (pc' := 12) rfl rfl ?_
                  refine h_iret rfl rfl (h_Kv ?_)
                  refine h_istore (pc' := 31) (M := [(5, .int (Int32.ofInt (-4))), (0, .ref 98), (1, .int (Int32.ofInt 1)), (2, .int z198), (3, .int z178), (4, .int (Int32.ofInt 1))]) rfl rfl rfl rfl ?_
                  refine h_aload_n (pc' := 32) rfl rfl rfl ?_
                  refine h_getR (pc' := 35) rfl rfl rfl rfl rfl ?_
                  refine h_iload_n (pc' := 36) rfl rfl rfl ?_
                  refine h_iload (pc' := 38) rfl rfl rfl ?_
                  refine h_zne (tg := 45) (pc' := 41) rfl rfl rfl ci_1 (fun c208 => ?_) (fun c208 => absurd c208 (by omega))
                  refine h_iload_n (pc' := 46) rfl rfl rfl ?_
                  refine h_bipush (pc' := 48) (x := (Int32.ofInt (-4))) rfl rfl cb_m4 ?_
                  refine h_cne (tg := 55) (pc' := 51) rfl rfl rfl hz178 ci_m4 (fun c209 => ?_) (fun c209 => absurd c209 (by omega))
                  refine h_iload_n (pc' := 56) rfl rfl rfl ?_
                  refine h_iconst (pc' := 57) (x := (Int32.ofInt 1)) rfl rfl rfl ?_
                  refine h_iadd (pc' := 58) rfl rfl hz178 ci_1 rfl (by have g0 := h_rgv hz178; omega) (by have g0 := h_rgv hz178; omega) (fun z210 hz210 => ?_)
                  refine h_iast (pc' := 59) rfl rfl rfl rfl hz198 (by omega) (by omega) hz210 (h_fgt (E := fun s => s 64 1 = s0 64 1 ∧ s 98 11 = s0 98 11 ∧ s 64 4 = s0 64 4 ∧ s 98 16 = s0 98 16 ∧ s 63 2 = s0 63 2 ∧ s 10 8 = s0 10 8 ∧ s 98 1 = s0 98 1 ∧ s 10 9 = s0 10 9 ∧ s 98 2 = s0 98 2 ∧ s 10 10 = s0 10 10 ∧ s 99 43 = s0 99 43 ∧ s 13 2 = s0 13 2 ∧ s 99 18 = s0 99 18 ∧ s 16 2 = s0 16 2 ∧ s 99 25 = s0 99 25 ∧ s 62 0 = s0 62 0 ∧ s 110 0 = s0 110 0 ∧ s 62 1 = s0 62 1 ∧ s 110 1 = s0 110 1 ∧ s = h_up s172 99 (6 + (s0 0 (b3 + 1))) ((s0 0 (b3 + 3)) + 1)) _ (ip_99_1 Is172 (by omega) (by omega)) (Fs172.up (k_ipg (p := 0) rfl rfl (by omega))) ⟨es172.1, es172.2.1, es172.2.2.1, es172.2.2.2.1, es172.2.2.2.2.1, es172.2.2.2.2.2.1, es172.2.2.2.2.2.2.1, es172.2.2.2.2.2.2.2.1, es172.2.2.2.2.2.2.2.2.1, es172.2.2.2.2.2.2.2.2.2.1, h_up_n2 (by omega) es172.2.2.2.2.2.2.2.2.2.2.1, es172.2.2.2.2.2.2.2.2.2.2.2.1, h_up_n2 (by omega) es172.2.2.2.2.2.2.2.2.2.2.2.2.1, es172.2.2.2.2.2.2.2.2.2.2.2.2.2.1, h_up_n2 (by omega) es172.2.2.2.2.2.2.2.2.2.2.2.2.2.2.1, es172.2.2.2.2.2.2.2.2.2.2.2.2.2.2.2.1, es172.2.2.2.2.2.2.2.2.2.2.2.2.2.2.2.2.1, es172.2.2.2.2.2.2.2.2.2.2.2.2.2.2.2.2.2.1, es172.2.2.2.2.2.2.2.2.2.2.2.2.2.2.2.2.2.2.1, rfl⟩ (fun s211 Is211 Fs211 (es211 : s211 64 1 = s0 64 1 ∧ s211 98 11 = s0 98 11 ∧ s211 64 4 = s0 64 4 ∧ s211 98 16 = s0 98 16 ∧ s211 63 2 = s0 63 2 ∧ s211 10 8 = s0 10 8 ∧ s211 98 1 = s0 98 1 ∧ s211 10 9 = s0 10 9 ∧ s211 98 2 = s0 98 2 ∧ s211 10 10 = s0 10 10 ∧ s211 99 43 = s0 99 43 ∧ s211 13 2 = s0 13 2 ∧ s211 99 18 = s0 99 18 ∧ s211 16 2 = s0 16 2 ∧ s211 99 25 = s0 99 25 ∧ s211 62 0 = s0 62 0 ∧ s211 110 0 = s0 110 0 ∧ s211 62 1 = s0 62 1 ∧ s211 110 1 = s0 110 1 ∧ s211 = h_up s172 99 (6 + (s0 0 (b3 + 1))) ((s0 0 (b3 + 3)) + 1)) => ?_))
                  clear es172
                  have us211 := es211.2.2.2.2.2.2.2.2.2.2.2.2.2.2.2.2.2.2.2
                  have Zs211 : ∀ i, s211 0 i = s0 0 i := fun i => (h_upo us211 rfl i).trans (Zs172 i)
                  refine h_iload (pc' := 61) rfl rfl rfl ?_
                  refine h_iret rfl rfl (h_Kv ?_)
                  refine h_iret rfl rfl (h_Kv ?_)
                  refine h_pop (pc' := 535) rfl rfl rfl ?_
                  refine h_goto (pc' := 1441) rfl rfl ?_
                  exact kk _ Is211 (by first | exact d_tape.le j0 (Int.le_antisymm (by omega) (by omega)) (by omega) (fun j => (h_upo us211 rfl j).trans ((h_upo us172 rfl j))) (fun j => (h_upo us211 rfl j).trans ((h_upo us172 rfl j))) | (exfalso; omega)) (Int.le_antisymm (by omega) (by omega)) (c_R.par j2 I0 (by omega) (by omega) (Int.le_antisymm (by omega) (by omega)) (by omega) (fun j => (h_upo us211 rfl j).trans ((h_upi us172 j)))  (fun j => (h_upi us211 j).trans (congrArg (fun z => if j = (6 + (s0 0 (b3 + 1))) then ((s0 0 (b3 + 3)) + 1) else z) ((h_upo us172 rfl j))))  (fun p j n0 n1 => (h_upq us211 n1 j).trans ((h_upq us172 n0 j))))
      · refine h_iload_n (pc' := 18) rfl rfl rfl ?_
        refine h_zlt (tg := 50) (pc' := 21) rfl rfl rfl hz6 (fun c212 => ?_) (fun c212 => ?_)
        · refine h_iload_n (pc' := 51) rfl rfl rfl ?_
          refine h_iconst (pc' := 52) (x := (Int32.ofInt 1)) rfl rfl rfl ?_
          refine h_cne (tg := 94) (pc' := 55) rfl rfl rfl hz4 ci_1 (fun c213 => ?_) (fun c213 => absurd c213 (by omega))
          refine h_iconst (pc' := 95) (x := (Int32.ofInt (-1))) rfl rfl rfl ?_
          refine h_iret rfl rfl (h_Kv ?_)
          refine h_pop (pc' := 515) rfl rfl rfl ?_
          refine h_aload_n (pc' := 516) rfl rfl rfl ?_
          refine h_aload_n (pc' := 517) rfl rfl rfl ?_
          refine h_iload_n (pc' := 518) rfl rfl rfl ?_
          refine h_iconst (pc' := 519) (x := (Int32.ofInt 1)) rfl rfl rfl ?_
          refine h_iadd (pc' := 520) rfl rfl hy3 ci_1 rfl (by omega) (by omega) (fun z214 hz214 => ?_)
          refine h_iald (pc' := 521) (v := s0 0 (b3 + 1)) rfl rfl rfl hz214 (by omega) (by omega) rfl (fun z215 hz215 => ?_)
          have tz215 := h_rgv hz215
          refine h_aload_n (pc' := 522) rfl rfl rfl ?_
          refine h_iload_n (pc' := 523) rfl rfl rfl ?_
          refine h_iconst (pc' := 524) (x := (Int32.ofInt 2)) rfl rfl rfl ?_
          refine h_iadd (pc' := 525) rfl rfl hy3 ci_2 rfl (by omega) (by omega) (fun z216 hz216 => ?_)
          refine h_iald (pc' := 526) (v := s0 0 (b3 + 2)) rfl rfl rfl hz216 (by omega) (by omega) rfl (fun z217 hz217 => ?_)
          have tz217 := h_rgv hz217
          refine h_aload_n (pc' := 527) rfl rfl rfl ?_
          refine h_iload_n (pc' := 528) rfl rfl rfl ?_
          refine h_iconst (pc' := 529) (x := (Int32.ofInt 3)) rfl rfl rfl ?_
          refine h_iadd (pc' := 530) rfl rfl hy3 ci_3 rfl (by omega) (by omega) (fun z218 hz218 => ?_)
          refine h_iald (pc' := 531) (v := s0 0 (b3 + 3)) rfl rfl rfl hz218 (by omega) (by omega) rfl (fun z219 hz219 => ?_)
          have tz219 := h_rgv hz219
          refine h_call (sp := false) (pc' := 534) (M := [(0, .ref 98), (1, .int z215), (2, .int z217), (3, .int z219)]) rfl rfl rfl rfl rfl rfl rfl rfl ?_
          refine h_iload_n (pc' := 1) rfl rfl rfl ?_
          refine h_iconst (pc' := 2) (x := (Int32.ofInt 1)) rfl rfl rfl ?_
          refine h_cne (tg := 48) (pc' := 5) rfl rfl rfl hz217 ci_1 (fun c220 => ?_) (fun c220 => absurd c220 (by omega))
          refine h_aload_n (pc' := 49) rfl rfl rfl ?_
          refine h_aload_n (pc' := 50) rfl rfl rfl ?_
          refine h_iload_n (pc' := 51) rfl rfl rfl ?_
          refine h_call (sp := false) (pc' := 54) (M := [(0, .ref 98), (1, .int z215)]) rfl rfl rfl rfl rfl rfl rfl rfl ?_
          refine h_iload_n (pc' := 1) rfl rfl rfl ?_
          refine h_i2l (pc' := 2) rfl rfl hz215 (fun z221 hz221 => ?_)
          refine h_lconst (pc' := 3) (x := (Int64.ofInt 0)) rfl rfl rfl ?_
          refine h_aload_n (pc' := 4) rfl rfl rfl ?_
          refine h_getI (pc' := 7) (v := s0 98 1) rfl rfl rfl rfl rfl rfl (fun z222 hz222 => ?_)
          have tz222 := tf_98_1 I0
          refine h_iconst (pc' := 8) (x := (Int32.ofInt 1)) rfl rfl rfl ?_
          refine h_isub (pc' := 9) rfl rfl hz222 ci_1 rfl (by omega) (by omega) (fun z223 hz223 => ?_)
          refine h_i2l (pc' := 10) rfl rfl hz223 (fun z224 hz224 => ?_)
          refine h_calls (pc' := 13) (M := [(0, .long z221), (2, .long (Int64.ofInt 0)), (4, .long z224)]) rfl rfl rfl rfl rfl rfl ?_
          refine h_lload_n (pc' := 1) rfl rfl rfl ?_
          refine h_lload_n (pc' := 2) rfl rfl rfl ?_
          refine h_lcmp (pc' := 3) rfl rfl hz221 cl_0 (fun z225 hz225 => ?_)
          refine h_zlt (tg := 17) (pc' := 6) rfl rfl rfl rfl (fun c226 => absurd c226 (by omega)) (fun c226 => ?_)
          replace c226 := (h_lcr hz225).2.1 c226
          clear hz225
          refine h_lload_n (pc' := 7) rfl rfl rfl ?_
          refine h_lload (pc' := 9) rfl rfl rfl ?_
          refine h_lcmp (pc' := 10) rfl rfl hz221 hz224 (fun z227 hz227 => ?_)
          refine h_zgt (tg := 17) (pc' := 13) rfl rfl rfl rfl (fun c228 => absurd c228 (by omega)) (fun c228 => ?_)
          replace c228 := (h_lcr hz227).2.2.1 c228
          clear hz227
          refine h_iconst (pc' := 14) (x := (Int32.ofInt 1)) rfl rfl rfl ?_
          refine h_goto (pc' := 18) rfl rfl ?_
          refine h_zret rfl rfl ci_1 (by omega) (h_Kv ?_)
          refine h_zret rfl rfl ci_1 (by omega) (h_Kv ?_)
          refine h_zeq (tg := 77) (pc' := 57) rfl rfl rfl ci_1 (fun c229 => absurd c229 (by omega)) (fun c229 => ?_)
          refine h_iload_n (pc' := 58) rfl rfl rfl ?_
          refine h_zne (tg := 77) (pc' := 61) rfl rfl rfl hz217 (fun c230 => absurd (Int.le_antisymm (by omega) (by omega)) c230) (fun c230 => ?_)
          refine h_iload_n (pc' := 62) rfl rfl rfl ?_
          refine h_i2l (pc' := 63) rfl rfl hz219 (fun z231 hz231 => ?_)
          refine h_lconst (pc' := 64) (x := (Int64.ofInt 0)) rfl rfl rfl ?_
          refine h_ldc2 (pc' := 67) (x := (Int64.ofInt 3)) rfl rfl rfl ?_
          refine h_calls (pc' := 70) (M := [(0, .long z231), (2, .long (Int64.ofInt 0)), (4, .long (Int64.ofInt 3))]) rfl rfl rfl rfl rfl rfl ?_
          refine h_lload_n (pc' := 1) rfl rfl rfl ?_
          refine h_lload_n (pc' := 2) rfl rfl rfl ?_
          refine h_lcmp (pc' := 3) rfl rfl hz231 cl_0 (fun z232 hz232 => ?_)
          refine h_zlt (tg := 17) (pc' := 6) rfl rfl rfl rfl (fun c233 => ?_) (fun c233 => absurd c233 (by omega))
          replace c233 := (h_lcr hz232).1 c233
          clear hz232
          refine h_iconst (pc' := 18) (x := (Int32.ofInt 0)) rfl rfl rfl ?_
          refine h_zret rfl rfl ci_0 (by omega) (h_Kv ?_)
          refine h_zeq (tg := 77) (pc' := 73) rfl rfl rfl ci_0 (fun c234 => ?_) (fun c234 => absurd (Int.le_antisymm (by omega) (by omega)) c234)
          refine h_iconst (pc' := 78) (x := (Int32.ofInt 0)) rfl rfl rfl ?_
          refine h_iload_n (pc' := 79) rfl rfl rfl ?_
          refine h_iload_n (pc' := 80) rfl rfl rfl ?_
          refine h_iconst (pc' := 81) (x := (Int32.ofInt 0)) rfl rfl rfl ?_
          refine h_call (sp := false) (pc' := 84) (M := [(0, .ref 98), (1, .int (Int32.ofInt 0)), (2, .int z215), (3, .int z219), (4, .int (Int32.ofInt 0))]) rfl rfl rfl rfl rfl rfl rfl rfl ?_
          refine h_iload_n (pc' := 1) rfl rfl rfl ?_
          refine h_zne (tg := 6) (pc' := 4) rfl rfl rfl ci_0 (fun c235 => absurd (Int.le_antisymm (by omega) (by omega)) c235) (fun c235 => ?_)
          refine h_iconst (pc' := 5) (x := (Int32.ofInt (-1))) rfl rfl rfl ?_
          refine h_iret rfl rfl (h_Kv ?_)
          refine h_iret rfl rfl (h_Kv ?_)
          refine h_pop (pc' := 535) rfl rfl rfl ?_
          refine h_goto (pc' := 1441) rfl rfl ?_
          exact kk _ I0 (by first | exact d_tape.le j0 (Int.le_antisymm (by omega) (by omega)) (by omega) (fun j => rfl) (fun j => rfl) | (exfalso; omega)) (Int.le_antisymm (by omega) (by omega)) j2
        · refine h_iload_n (pc' := 22) rfl rfl rfl ?_
          refine h_iconst (pc' := 23) (x := (Int32.ofInt 4)) rfl rfl rfl ?_
          refine h_cge (tg := 50) (pc' := 26) rfl rfl rfl hz6 ci_4 (fun c236 => ?_) (fun c236 => ?_)
          · refine h_iload_n (pc' := 51) rfl rfl rfl ?_
            refine h_iconst (pc' := 52) (x := (Int32.ofInt 1)) rfl rfl rfl ?_
            refine h_cne (tg := 94) (pc' := 55) rfl rfl rfl hz4 ci_1 (fun c237 => ?_) (fun c237 => absurd c237 (by omega))
            refine h_iconst (pc' := 95) (x := (Int32.ofInt (-1))) rfl rfl rfl ?_
            refine h_iret rfl rfl (h_Kv ?_)
            refine h_pop (pc' := 515) rfl rfl rfl ?_
            refine h_aload_n (pc' := 516) rfl rfl rfl ?_
            refine h_aload_n (pc' := 517) rfl rfl rfl ?_
            refine h_iload_n (pc' := 518) rfl rfl rfl ?_
            refine h_iconst (pc' := 519) (x := (Int32.ofInt 1)) rfl rfl rfl ?_
            refine h_iadd (pc' := 520) rfl rfl hy3 ci_1 rfl (by omega) (by omega) (fun z238 hz238 => ?_)
            refine h_iald (pc' := 521) (v := s0 0 (b3 + 1)) rfl rfl rfl hz238 (by omega) (by omega) rfl (fun z239 hz239 => ?_)
            have tz239 := h_rgv hz239
            refine h_aload_n (pc' := 522) rfl rfl rfl ?_
            refine h_iload_n (pc' := 523) rfl rfl rfl ?_
            refine h_iconst (pc' := 524) (x := (Int32.ofInt 2)) rfl rfl rfl ?_
            refine h_iadd (pc' := 525) rfl rfl hy3 ci_2 rfl (by omega) (by omega) (fun z240 hz240 => ?_)
            refine h_iald (pc' := 526) (v := s0 0 (b3 + 2)) rfl rfl rfl hz240 (by omega) (by omega) rfl (fun z241 hz241 => ?_)
            have tz241 := h_rgv hz241
            refine h_aload_n (pc' := 527) rfl rfl rfl ?_
            refine h_iload_n (pc' := 528) rfl rfl rfl ?_
            refine h_iconst (pc' := 529) (x := (Int32.ofInt 3)) rfl rfl rfl ?_
            refine h_iadd (pc' := 530) rfl rfl hy3 ci_3 rfl (by omega) (by omega) (fun z242 hz242 => ?_)
            refine h_iald (pc' := 531) (v := s0 0 (b3 + 3)) rfl rfl rfl hz242 (by omega) (by omega) rfl (fun z243 hz243 => ?_)
            have tz243 := h_rgv hz243
            refine h_call (sp := false) (pc' := 534) (M := [(0, .ref 98), (1, .int z239), (2, .int z241), (3, .int z243)]) rfl rfl rfl rfl rfl rfl rfl rfl ?_
            refine h_iload_n (pc' := 1) rfl rfl rfl ?_
            refine h_iconst (pc' := 2) (x := (Int32.ofInt 1)) rfl rfl rfl ?_
            refine h_cne (tg := 48) (pc' := 5) rfl rfl rfl hz241 ci_1 (fun c244 => ?_) (fun c244 => absurd c244 (by omega))
            refine h_aload_n (pc' := 49) rfl rfl rfl ?_
            refine h_aload_n (pc' := 50) rfl rfl rfl ?_
            refine h_iload_n (pc' := 51) rfl rfl rfl ?_
            refine h_call (sp := false) (pc' := 54) (M := [(0, .ref 98), (1, .int z239)]) rfl rfl rfl rfl rfl rfl rfl rfl ?_
            refine h_iload_n (pc' := 1) rfl rfl rfl ?_
            refine h_i2l (pc' := 2) rfl rfl hz239 (fun z245 hz245 => ?_)
            refine h_lconst (pc' := 3) (x := (Int64.ofInt 0)) rfl rfl rfl ?_
            refine h_aload_n (pc' := 4) rfl rfl rfl ?_
            refine h_getI (pc' := 7) (v := s0 98 1) rfl rfl rfl rfl rfl rfl (fun z246 hz246 => ?_)
            have tz246 := tf_98_1 I0
            refine h_iconst (pc' := 8) (x := (Int32.ofInt 1)) rfl rfl rfl ?_
            refine h_isub (pc' := 9) rfl rfl hz246 ci_1 rfl (by omega) (by omega) (fun z247 hz247 => ?_)
            refine h_i2l (pc' := 10) rfl rfl hz247 (fun z248 hz248 => ?_)
            refine h_calls (pc' := 13) (M := [(0, .long z245), (2, .long (Int64.ofInt 0)), (4, .long z248)]) rfl rfl rfl rfl rfl rfl ?_
            refine h_lload_n (pc' := 1) rfl rfl rfl ?_
            refine h_lload_n (pc' := 2) rfl rfl rfl ?_
            refine h_lcmp (pc' := 3) rfl rfl hz245 cl_0 (fun z249 hz249 => ?_)
            refine h_zlt (tg := 17) (pc' := 6) rfl rfl rfl rfl (fun c250 => absurd c250 (by omega)) (fun c250 => ?_)
            replace c250 := (h_lcr hz249).2.1 c250
            clear hz249
            refine h_lload_n (pc' := 7) rfl rfl rfl ?_
            refine h_lload (pc' := 9) rfl rfl rfl ?_
            refine h_lcmp (pc' := 10) rfl rfl hz245 hz248 (fun z251 hz251 => ?_)
            refine h_zgt (tg := 17) (pc' := 13) rfl rfl rfl rfl (fun c252 => absurd c252 (by omega)) (fun c252 => ?_)
            replace c252 := (h_lcr hz251).2.2.1 c252
            clear hz251
            refine h_iconst (pc' := 14) (x := (Int32.ofInt 1)) rfl rfl rfl ?_
            refine h_goto (pc' := 18) rfl rfl ?_
            refine h_zret rfl rfl ci_1 (by omega) (h_Kv ?_)
            refine h_zret rfl rfl ci_1 (by omega) (h_Kv ?_)
            refine h_zeq (tg := 77) (pc' := 57) rfl rfl rfl ci_1 (fun c253 => absurd c253 (by omega)) (fun c253 => ?_)
            refine h_iload_n (pc' := 58) rfl rfl rfl ?_
            refine h_zne (tg := 77) (pc' := 61) rfl rfl rfl hz241 (fun c254 => absurd (Int.le_antisymm (by omega) (by omega)) c254) (fun c254 => ?_)
            refine h_iload_n (pc' := 62) rfl rfl rfl ?_
            refine h_i2l (pc' := 63) rfl rfl hz243 (fun z255 hz255 => ?_)
            refine h_lconst (pc' := 64) (x := (Int64.ofInt 0)) rfl rfl rfl ?_
            refine h_ldc2 (pc' := 67) (x := (Int64.ofInt 3)) rfl rfl rfl ?_
            refine h_calls (pc' := 70) (M := [(0, .long z255), (2, .long (Int64.ofInt 0)), (4, .long (Int64.ofInt 3))]) rfl rfl rfl rfl rfl rfl ?_
            refine h_lload_n (pc' := 1) rfl rfl rfl ?_
            refine h_lload_n (pc' := 2) rfl rfl rfl ?_
            refine h_lcmp (pc' := 3) rfl rfl hz255 cl_0 (fun z256 hz256 => ?_)
            refine h_zlt (tg := 17) (pc' := 6) rfl rfl rfl rfl (fun c257 => absurd c257 (by omega)) (fun c257 => ?_)
            replace c257 := (h_lcr hz256).2.1 c257
            clear hz256
            refine h_lload_n (pc' := 7) rfl rfl rfl ?_
            refine h_lload (pc' := 9) rfl rfl rfl ?_
            refine h_lcmp (pc' := 10) rfl rfl hz255 cl_3 (fun z258 hz258 => ?_)
            refine h_zgt (tg := 17) (pc' := 13) rfl rfl rfl rfl (fun c259 => ?_) (fun c259 => absurd c259 (by omega))
            replace c259 := (h_lcr hz258).2.2.2.1 c259
            clear hz258
            refine h_iconst (pc' := 18) (x := (Int32.ofInt 0)) rfl rfl rfl ?_
            refine h_zret rfl rfl ci_0 (by omega) (h_Kv ?_)
            refine h_zeq (tg := 77) (pc' := 73) rfl rfl rfl ci_0 (fun c260 => ?_) (fun c260 => absurd (Int.le_antisymm (by omega) (by omega)) c260)
            refine h_iconst (pc' := 78) (x := (Int32.ofInt 0)) rfl rfl rfl ?_
            refine h_iload_n (pc' := 79) rfl rfl rfl ?_
            refine h_iload_n (pc' := 80) rfl rfl rfl ?_
            refine h_iconst (pc' := 81) (x := (Int32.ofInt 0)) rfl rfl rfl ?_
            refine h_call (sp := false) (pc' := 84) (M := [(0, .ref 98), (1, .int (Int32.ofInt 0)), (2, .int z239), (3, .int z243), (4, .int (Int32.ofInt 0))]) rfl rfl rfl rfl rfl rfl rfl rfl ?_
            refine h_iload_n (pc' := 1) rfl rfl rfl ?_
            refine h_zne (tg := 6) (pc' := 4) rfl rfl rfl ci_0 (fun c261 => absurd (Int.le_antisymm (by omega) (by omega)) c261) (fun c261 => ?_)
            refine h_iconst (pc' := 5) (x := (Int32.ofInt (-1))) rfl rfl rfl ?_
            refine h_iret rfl rfl (h_Kv ?_)
            refine h_iret rfl rfl (h_Kv ?_)
            refine h_pop (pc' := 535) rfl rfl rfl ?_
            refine h_goto (pc' := 1441) rfl rfl ?_
            exact kk _ I0 (by first | exact d_tape.le j0 (Int.le_antisymm (by omega) (by omega)) (by omega) (fun j => rfl) (fun j => rfl) | (exfalso; omega)) (Int.le_antisymm (by omega) (by omega)) j2
          · refine h_aload_n (pc' := 27) rfl rfl rfl ?_
            refine h_getR (pc' := 30) rfl rfl rfl rfl rfl ?_
            refine h_getR (pc' := 33) rfl rfl rfl rfl rfl ?_
            refine h_iload_n (pc' := 34) rfl rfl rfl ?_
            refine h_iald (pc' := 35) (v := s0 11 (s0 0 (b3 + 1))) rfl rfl rfl hz2 (by omega) (by omega) rfl (fun z262 hz262 => ?_)
            have tz262 := ty_11 I0 (s0 0 (b3 + 1))
            refine h_istore (pc' := 37) (M := [(4, .int z262), (0, .ref 9), (1, .int z2), (2, .int z4), (3, .int z6)]) rfl rfl rfl rfl ?_
            refine h_aload_n (pc' := 38) rfl rfl rfl ?_
            refine h_getR (pc' := 41) rfl rfl rfl rfl rfl ?_
            refine h_getR (pc' := 44) rfl rfl rfl rfl rfl ?_
            refine h_iload_n (pc' := 45) rfl rfl rfl ?_
            refine h_iload_n (pc' := 46) rfl rfl rfl ?_
            refine h_iast (pc' := 47) rfl rfl rfl rfl hz2 (by omega) (by omega) hz6 (h_fgt (E := fun s => s 64 1 = s0 64 1 ∧ s 98 11 = s0 98 11 ∧ s 64 4 = s0 64 4 ∧ s 98 16 = s0 98 16 ∧ s 63 2 = s0 63 2 ∧ s 10 8 = s0 10 8 ∧ s 98 1 = s0 98 1 ∧ s 10 9 = s0 10 9 ∧ s 98 2 = s0 98 2 ∧ s 10 10 = s0 10 10 ∧ s 99 43 = s0 99 43 ∧ s 13 2 = s0 13 2 ∧ s 99 18 = s0 99 18 ∧ s 16 2 = s0 16 2 ∧ s 99 25 = s0 99 25 ∧ s 62 0 = s0 62 0 ∧ s 110 0 = s0 110 0 ∧ s 62 1 = s0 62 1 ∧ s 110 1 = s0 110 1 ∧ s = h_up s0 11 (s0 0 (b3 + 1)) (s0 0 (b3 + 3))) _ (in_11 I0 (by omega)) (F0_.up rfl) ⟨rfl, rfl, rfl, rfl, rfl, rfl, rfl, rfl, rfl, rfl, rfl, rfl, rfl, rfl, rfl, rfl, rfl, rfl, rfl, rfl⟩ (fun s263 Is263 Fs263 (es263 : s263 64 1 = s0 64 1 ∧ s263 98 11 = s0 98 11 ∧ s263 64 4 = s0 64 4 ∧ s263 98 16 = s0 98 16 ∧ s263 63 2 = s0 63 2 ∧ s263 10 8 = s0 10 8 ∧ s263 98 1 = s0 98 1 ∧ s263 10 9 = s0 10 9 ∧ s263 98 2 = s0 98 2 ∧ s263 10 10 = s0 10 10 ∧ s263 99 43 = s0 99 43 ∧ s263 13 2 = s0 13 2 ∧ s263 99 18 = s0 99 18 ∧ s263 16 2 = s0 16 2 ∧ s263 99 25 = s0 99 25 ∧ s263 62 0 = s0 62 0 ∧ s263 110 0 = s0 110 0 ∧ s263 62 1 = s0 62 1 ∧ s263 110 1 = s0 110 1 ∧ s263 = h_up s0 11 (s0 0 (b3 + 1)) (s0 0 (b3 + 3))) => ?_))
            have us263 := es263.2.2.2.2.2.2.2.2.2.2.2.2.2.2.2.2.2.2.2
            have Zs263 : ∀ i, s263 0 i = s0 0 i := fun i => (h_upo us263 rfl i).trans rfl
            refine h_iload (pc' := 49) rfl rfl rfl ?_
            refine h_iret rfl rfl (h_Kv ?_)
            refine h_pop (pc' := 515) rfl rfl rfl ?_
            refine h_aload_n (pc' := 516) rfl rfl rfl ?_
            refine h_aload_n (pc' := 517) rfl rfl rfl ?_
            refine h_iload_n (pc' := 518) rfl rfl rfl ?_
            refine h_iconst (pc' := 519) (x := (Int32.ofInt 1)) rfl rfl rfl ?_
            refine h_iadd (pc' := 520) rfl rfl hy3 ci_1 rfl (by omega) (by omega) (fun z264 hz264 => ?_)
            refine h_iald (pc' := 521) (v := s0 0 (b3 + 1)) rfl rfl rfl hz264 (by omega) (by omega) (Zs263 _) (fun z265 hz265 => ?_)
            have tz265 := h_rgv hz265
            refine h_aload_n (pc' := 522) rfl rfl rfl ?_
            refine h_iload_n (pc' := 523) rfl rfl rfl ?_
            refine h_iconst (pc' := 524) (x := (Int32.ofInt 2)) rfl rfl rfl ?_
            refine h_iadd (pc' := 525) rfl rfl hy3 ci_2 rfl (by omega) (by omega) (fun z266 hz266 => ?_)
            refine h_iald (pc' := 526) (v := s0 0 (b3 + 2)) rfl rfl rfl hz266 (by omega) (by omega) (Zs263 _) (fun z267 hz267 => ?_)
            have tz267 := h_rgv hz267
            refine h_aload_n (pc' := 527) rfl rfl rfl ?_
            refine h_iload_n (pc' := 528) rfl rfl rfl ?_
            refine h_iconst (pc' := 529) (x := (Int32.ofInt 3)) rfl rfl rfl ?_
            refine h_iadd (pc' := 530) rfl rfl hy3 ci_3 rfl (by omega) (by omega) (fun z268 hz268 => ?_)
            refine h_iald (pc' := 531) (v := s0 0 (b3 + 3)) rfl rfl rfl hz268 (by omega) (by omega) (Zs263 _) (fun z269 hz269 => ?_)
            have tz269 := h_rgv hz269
            refine h_call (sp := false) (pc' := 534) (M := [(0, .ref 98), (1, .int z265), (2, .int z267), (3, .int z269)]) rfl rfl rfl rfl rfl rfl rfl rfl ?_
            refine h_iload_n (pc' := 1) rfl rfl rfl ?_
            refine h_iconst (pc' := 2) (x := (Int32.ofInt 1)) rfl rfl rfl ?_
            refine h_cne (tg := 48) (pc' := 5) rfl rfl rfl hz267 ci_1 (fun c270 => ?_) (fun c270 => absurd c270 (by omega))
            refine h_aload_n (pc' := 49) rfl rfl rfl ?_
            refine h_aload_n (pc' := 50) rfl rfl rfl ?_
            refine h_iload_n (pc' := 51) rfl rfl rfl ?_
            refine h_call (sp := false) (pc' := 54) (M := [(0, .ref 98), (1, .int z265)]) rfl rfl rfl rfl rfl rfl rfl rfl ?_
            refine h_iload_n (pc' := 1) rfl rfl rfl ?_
            refine h_i2l (pc' := 2) rfl rfl hz265 (fun z271 hz271 => ?_)
            refine h_lconst (pc' := 3) (x := (Int64.ofInt 0)) rfl rfl rfl ?_
            refine h_aload_n (pc' := 4) rfl rfl rfl ?_
            refine h_getI (pc' := 7) (v := s0 98 1) rfl rfl rfl rfl rfl es263.2.2.2.2.2.2.1 (fun z272 hz272 => ?_)
            have tz272 := tf_98_1 I0
            refine h_iconst (pc' := 8) (x := (Int32.ofInt 1)) rfl rfl rfl ?_
            refine h_isub (pc' := 9) rfl rfl hz272 ci_1 rfl (by omega) (by omega) (fun z273 hz273 => ?_)
            refine h_i2l (pc' := 10) rfl rfl hz273 (fun z274 hz274 => ?_)
            refine h_calls (pc' := 13) (M := [(0, .long z271), (2, .long (Int64.ofInt 0)), (4, .long z274)]) rfl rfl rfl rfl rfl rfl ?_
            refine h_lload_n (pc' := 1) rfl rfl rfl ?_
            refine h_lload_n (pc' := 2) rfl rfl rfl ?_
            refine h_lcmp (pc' := 3) rfl rfl hz271 cl_0 (fun z275 hz275 => ?_)
            refine h_zlt (tg := 17) (pc' := 6) rfl rfl rfl rfl (fun c276 => absurd c276 (by omega)) (fun c276 => ?_)
            replace c276 := (h_lcr hz275).2.1 c276
            clear hz275
            refine h_lload_n (pc' := 7) rfl rfl rfl ?_
            refine h_lload (pc' := 9) rfl rfl rfl ?_
            refine h_lcmp (pc' := 10) rfl rfl hz271 hz274 (fun z277 hz277 => ?_)
            refine h_zgt (tg := 17) (pc' := 13) rfl rfl rfl rfl (fun c278 => absurd c278 (by omega)) (fun c278 => ?_)
            replace c278 := (h_lcr hz277).2.2.1 c278
            clear hz277
            refine h_iconst (pc' := 14) (x := (Int32.ofInt 1)) rfl rfl rfl ?_
            refine h_goto (pc' := 18) rfl rfl ?_
            refine h_zret rfl rfl ci_1 (by omega) (h_Kv ?_)
            refine h_zret rfl rfl ci_1 (by omega) (h_Kv ?_)
            refine h_zeq (tg := 77) (pc' := 57) rfl rfl rfl ci_1 (fun c279 => absurd c279 (by omega)) (fun c279 => ?_)
            refine h_iload_n (pc' := 58) rfl rfl rfl ?_
            refine h_zne (tg := 77) (pc' := 61) rfl rfl rfl hz267 (fun c280 => absurd (Int.le_antisymm (by omega) (by omega)) c280) (fun c280 => ?_)
            refine h_iload_n (pc' := 62) rfl rfl rfl ?_
            refine h_i2l (pc' := 63) rfl rfl hz269 (fun z281 hz281 => ?_)
            refine h_lconst (pc' := 64) (x := (Int64.ofInt 0)) rfl rfl rfl ?_
            refine h_ldc2 (pc' := 67) (x := (Int64.ofInt 3)) rfl rfl rfl ?_
            refine h_calls (pc' := 70) (M := [(0, .long z281), (2, .long (Int64.ofInt 0)), (4, .long (Int64.ofInt 3))]) rfl rfl rfl rfl rfl rfl ?_
            refine h_lload_n (pc' := 1) rfl rfl rfl ?_
            refine h_lload_n (pc' := 2) rfl rfl rfl ?_
            refine h_lcmp (pc' := 3) rfl rfl hz281 cl_0 (fun z282 hz282 => ?_)
            refine h_zlt (tg := 17) (pc' := 6) rfl rfl rfl rfl (fun c283 => absurd c283 (by omega)) (fun c283 => ?_)
            replace c283 := (h_lcr hz282).2.1 c283
            clear hz282
            refine h_lload_n (pc' := 7) rfl rfl rfl ?_
            refine h_lload (pc' := 9) rfl rfl rfl ?_
            refine h_lcmp (pc' := 10) rfl rfl hz281 cl_3 (fun z284 hz284 => ?_)
            refine h_zgt (tg := 17) (pc' := 13) rfl rfl rfl rfl (fun c285 => absurd c285 (by omega)) (fun c285 => ?_)
            replace c285 := (h_lcr hz284).2.2.1 c285
            clear hz284
            refine h_iconst (pc' := 14) (x := (Int32.ofInt 1)) rfl rfl rfl ?_
            refine h_goto (pc' := 18) rfl rfl ?_
            refine h_zret rfl rfl ci_1 (by omega) (h_Kv ?_)
            refine h_zeq (tg := 77) (pc' := 73) rfl rfl rfl ci_1 (fun c286 => absurd c286 (by omega)) (fun c286 => ?_)
            refine h_iconst (pc' := 74) (x := (Int32.ofInt 1)) rfl rfl rfl ?_
            refine h_goto (pc' := 78) rfl rfl ?_
            refine h_iload_n (pc' := 79) rfl rfl rfl ?_
            refine h_iload_n (pc' := 80) rfl rfl rfl ?_
            refine h_iconst (pc' := 81) (x := (Int32.ofInt 0)) rfl rfl rfl ?_
            refine h_call (sp := false) (pc' := 84) (M := [(0, .ref 98), (1, .int (Int32.ofInt 1)), (2, .int z265), (3, .int z269), (4, .int (Int32.ofInt 0))]) rfl rfl rfl rfl rfl rfl rfl rfl ?_
            refine h_iload_n (pc' := 1) rfl rfl rfl ?_
            refine h_zne (tg := 6) (pc' := 4) rfl rfl rfl ci_1 (fun c287 => ?_) (fun c287 => absurd c287 (by omega))
            refine h_iload (pc' := 8) rfl rfl rfl ?_
            refine h_zne (tg := 20) (pc' := 11) rfl rfl rfl ci_0 (fun c288 => absurd (Int.le_antisymm (by omega) (by omega)) c288) (fun c288 => ?_)
            refine h_aload_n (pc' := 12) rfl rfl rfl ?_
            refine h_getR (pc' := 15) rfl rfl rfl rfl rfl ?_
            refine h_iload_n (pc' := 16) rfl rfl rfl ?_
            refine h_iald (pc' := 17) (v := s263 99 (s0 0 (b3 + 1))) rfl rfl rfl hz265 (by omega) (by omega) rfl (fun z289 hz289 => ?_)
            have tz289 := ty_99_0 Is263 (s0 0 (b3 + 1)) (by omega)
            refine h_goto (pc' := 29) rfl rfl ?_
            refine h_istore (pc' := 31) (M := [(5, .int z289), (0, .ref 98), (1, .int (Int32.ofInt 1)), (2, .int z265), (3, .int z269), (4, .int (Int32.ofInt 0))]) rfl rfl rfl rfl ?_
            refine h_aload_n (pc' := 32) rfl rfl rfl ?_
            refine h_getR (pc' := 35) rfl rfl rfl rfl rfl ?_
            refine h_iload_n (pc' := 36) rfl rfl rfl ?_
            refine h_iload (pc' := 38) rfl rfl rfl ?_
            refine h_zne (tg := 45) (pc' := 41) rfl rfl rfl ci_0 (fun c290 => absurd (Int.le_antisymm (by omega) (by omega)) c290) (fun c290 => ?_)
            refine h_iload_n (pc' := 42) rfl rfl rfl ?_
            refine h_goto (pc' := 58) rfl rfl ?_
            refine h_iast (pc' := 59) rfl rfl rfl rfl hz265 (by omega) (by omega) hz269 (h_fgt (E := fun s => s 64 1 = s0 64 1 ∧ s 98 11 = s0 98 11 ∧ s 64 4 = s0 64 4 ∧ s 98 16 = s0 98 16 ∧ s 63 2 = s0 63 2 ∧ s 10 8 = s0 10 8 ∧ s 98 1 = s0 98 1 ∧ s 10 9 = s0 10 9 ∧ s 98 2 = s0 98 2 ∧ s 10 10 = s0 10 10 ∧ s 99 43 = s0 99 43 ∧ s 13 2 = s0 13 2 ∧ s 99 18 = s0 99 18 ∧ s 16 2 = s0 16 2 ∧ s 99 25 = s0 99 25 ∧ s 62 0 = s0 62 0 ∧ s 110 0 = s0 110 0 ∧ s 62 1 = s0 62 1 ∧ s 110 1 = s0 110 1 ∧ s = h_up s263 99 (s0 0 (b3 + 1)) (s0 0 (b3 + 3))) _ (ip_99_0 Is263 (by omega) (by omega)) (Fs263.up (k_ipg (p := 0) rfl rfl (by omega))) ⟨es263.1, es263.2.1, es263.2.2.1, es263.2.2.2.1, es263.2.2.2.2.1, es263.2.2.2.2.2.1, es263.2.2.2.2.2.2.1, es263.2.2.2.2.2.2.2.1, es263.2.2.2.2.2.2.2.2.1, es263.2.2.2.2.2.2.2.2.2.1, h_up_n2 (by omega) es263.2.2.2.2.2.2.2.2.2.2.1, es263.2.2.2.2.2.2.2.2.2.2.2.1, h_up_n2 (by omega) es263.2.2.2.2.2.2.2.2.2.2.2.2.1, es263.2.2.2.2.2.2.2.2.2.2.2.2.2.1, h_up_n2 (by omega) es263.2.2.2.2.2.2.2.2.2.2.2.2.2.2.1, es263.2.2.2.2.2.2.2.2.2.2.2.2.2.2.2.1, es263.2.2.2.2.2.2.2.2.2.2.2.2.2.2.2.2.1, es263.2.2.2.2.2.2.2.2.2.2.2.2.2.2.2.2.2.1, es263.2.2.2.2.2.2.2.2.2.2.2.2.2.2.2.2.2.2.1, rfl⟩ (fun s291 Is291 Fs291 (es291 : s291 64 1 = s0 64 1 ∧ s291 98 11 = s0 98 11 ∧ s291 64 4 = s0 64 4 ∧ s291 98 16 = s0 98 16 ∧ s291 63 2 = s0 63 2 ∧ s291 10 8 = s0 10 8 ∧ s291 98 1 = s0 98 1 ∧ s291 10 9 = s0 10 9 ∧ s291 98 2 = s0 98 2 ∧ s291 10 10 = s0 10 10 ∧ s291 99 43 = s0 99 43 ∧ s291 13 2 = s0 13 2 ∧ s291 99 18 = s0 99 18 ∧ s291 16 2 = s0 16 2 ∧ s291 99 25 = s0 99 25 ∧ s291 62 0 = s0 62 0 ∧ s291 110 0 = s0 110 0 ∧ s291 62 1 = s0 62 1 ∧ s291 110 1 = s0 110 1 ∧ s291 = h_up s263 99 (s0 0 (b3 + 1)) (s0 0 (b3 + 3))) => ?_))
            clear es263
            have us291 := es291.2.2.2.2.2.2.2.2.2.2.2.2.2.2.2.2.2.2.2
            have Zs291 : ∀ i, s291 0 i = s0 0 i := fun i => (h_upo us291 rfl i).trans (Zs263 i)
            refine h_iload (pc' := 61) rfl rfl rfl ?_
            refine h_iret rfl rfl (h_Kv ?_)
            refine h_iret rfl rfl (h_Kv ?_)
            refine h_pop (pc' := 535) rfl rfl rfl ?_
            refine h_goto (pc' := 1441) rfl rfl ?_
            exact kk _ Is291 (by first | exact d_tape.le j0 (Int.le_antisymm (by omega) (by omega)) (by omega) (fun j => (h_upo us291 rfl j).trans ((h_upo us263 rfl j))) (fun j => (h_upo us291 rfl j).trans ((h_upo us263 rfl j))) | (exfalso; omega)) (Int.le_antisymm (by omega) (by omega)) (c_R.kind j2 I0 (by omega) (by omega) (Int.le_antisymm (by omega) (by omega)) (fun j => (h_upo us291 rfl j).trans ((h_upi us263 j)))  (fun j => (h_upi us291 j).trans (congrArg (fun z => if j = (s0 0 (b3 + 1)) then (s0 0 (b3 + 3)) else z) ((h_upo us263 rfl j))))  (fun p j n0 n1 => (h_upq us291 n1 j).trans ((h_upq us263 n0 j))))
set_option maxHeartbeats 100000000 in
theorem g_case_538 {ns : Nat} (hns : ns ≤ 320) (s0 : h_S) (I0 : h_I s0) (j0 : d_tape s0 s0) (j1 : s0 64 4 = s0 98 16) (j2 : c_R false s0) (y3 : Int32) (b3 : Int) (hy3 : y3.toInt = b3) (hr : 0 ≤ b3 ∧ b3 + 5 ≤ ns) {Q : Option Value → h_S → Prop} (kk : ∀ τ, h_I τ → (d_tape τ τ) → (τ 64 4 = τ 98 16) → (c_R false τ) → h_T g_P (g_Y ns) 225 1441 [(0, .ref 0), (1, .ref 9), (2, .ref 98), (3, .int y3)] [] τ Q) : h_T g_P (g_Y ns) 225 538 [(0, .ref 0), (1, .ref 9), (2, .ref 98), (3, .int y3)] [] s0 Q := by
  have F0_ : h_F (fun _ _ => true) s0 s0 := h_F.rf
  have j0_ := j0.2
  have i0 := tf_64_1 I0
  have i1 := tf_98_11 I0
  have i2 := tf_64_4 I0
  have i3 := tf_98_16 I0
  have i4 := tf_63_2 I0
  have i5 := tf_10_8 I0
  have i6 := tf_98_1 I0
  have i7 := tf_10_9 I0
  have i8 := tf_98_2 I0
  have i9 := tf_10_10 I0
  have i11 := tf_13_2 I0
  have i13 := tf_16_2 I0
  have j2_ := j2.sz
  have j2i := j2.2.2.1
  have y43 := ty_99_10 I0 43 (by omega)
  have y18 := ty_99_3 I0 18 (by omega)
  have y25 := ty_99_5 I0 25 (by omega)
  have y62_0 := ty_62 I0 0
  have y62_1 := ty_62 I0 1
  have y110_0 := ty_110 I0 0
  have y110_1 := ty_110 I0 1
  refine h_aload_n (pc' := 539) rfl rfl rfl ?_
  refine h_aload_n (pc' := 540) rfl rfl rfl ?_
  refine h_iload_n (pc' := 541) rfl rfl rfl ?_
  refine h_iconst (pc' := 542) (x := (Int32.ofInt 1)) rfl rfl rfl ?_
  refine h_iadd (pc' := 543) rfl rfl hy3 ci_1 rfl (by omega) (by omega) (fun z1 hz1 => ?_)
  refine h_iald (pc' := 544) (v := s0 0 (b3 + 1)) rfl rfl rfl hz1 (by omega) (by omega) rfl (fun z2 hz2 => ?_)
  have tz2 := h_rgv hz2
  refine h_aload_n (pc' := 545) rfl rfl rfl ?_
  refine h_iload_n (pc' := 546) rfl rfl rfl ?_
  refine h_iconst (pc' := 547) (x := (Int32.ofInt 2)) rfl rfl rfl ?_
  refine h_iadd (pc' := 548) rfl rfl hy3 ci_2 rfl (by omega) (by omega) (fun z3 hz3 => ?_)
  refine h_iald (pc' := 549) (v := s0 0 (b3 + 2)) rfl rfl rfl hz3 (by omega) (by omega) rfl (fun z4 hz4 => ?_)
  have tz4 := h_rgv hz4
  refine h_call (sp := false) (pc' := 552) (M := [(0, .ref 9), (1, .int z2), (2, .int z4)]) rfl rfl rfl rfl rfl rfl rfl rfl ?_
  refine h_aload_n (pc' := 1) rfl rfl rfl ?_
  refine h_aload_n (pc' := 2) rfl rfl rfl ?_
  refine h_getR (pc' := 5) rfl rfl rfl rfl rfl ?_
  refine h_getR (pc' := 8) rfl rfl rfl rfl rfl ?_
  refine h_iload_n (pc' := 9) rfl rfl rfl ?_
  refine h_iload_n (pc' := 10) rfl rfl rfl ?_
  refine h_call (sp := false) (pc' := 13) (M := [(0, .ref 9), (1, .ref 13), (2, .int z2), (3, .int z4)]) rfl rfl rfl rfl rfl rfl rfl rfl ?_
  refine h_aload_n (pc' := 1) rfl rfl rfl ?_
  refine h_getR (pc' := 4) rfl rfl rfl rfl rfl ?_
  refine h_iload_n (pc' := 5) rfl rfl rfl ?_
  refine h_call (sp := false) (pc' := 8) (M := [(0, .ref 10), (1, .int z2)]) rfl rfl rfl rfl rfl rfl rfl rfl ?_
  refine h_iload_n (pc' := 1) rfl rfl rfl ?_
  refine h_zlt (tg := 16) (pc' := 4) rfl rfl rfl hz2 (fun c5 => ?_) (fun c5 => ?_)
  · refine h_iconst (pc' := 17) (x := (Int32.ofInt 0)) rfl rfl rfl ?_
    refine h_zret rfl rfl ci_0 (by omega) (h_Kv ?_)
    refine h_zeq (tg := 27) (pc' := 11) rfl rfl rfl ci_0 (fun c6 => ?_) (fun c6 => absurd (Int.le_antisymm (by omega) (by omega)) c6)
    refine h_iconst (pc' := 28) (x := (Int32.ofInt (-1))) rfl rfl rfl ?_
    refine h_iret rfl rfl (h_Kv ?_)
    refine h_iret rfl rfl (h_Kv ?_)
    refine h_pop (pc' := 553) rfl rfl rfl ?_
    refine h_aload_n (pc' := 554) rfl rfl rfl ?_
    refine h_aload_n (pc' := 555) rfl rfl rfl ?_
    refine h_iload_n (pc' := 556) rfl rfl rfl ?_
    refine h_iconst (pc' := 557) (x := (Int32.ofInt 1)) rfl rfl rfl ?_
    refine h_iadd (pc' := 558) rfl rfl hy3 ci_1 rfl (by omega) (by omega) (fun z7 hz7 => ?_)
    refine h_iald (pc' := 559) (v := s0 0 (b3 + 1)) rfl rfl rfl hz7 (by omega) (by omega) rfl (fun z8 hz8 => ?_)
    have tz8 := h_rgv hz8
    refine h_aload_n (pc' := 560) rfl rfl rfl ?_
    refine h_iload_n (pc' := 561) rfl rfl rfl ?_
    refine h_iconst (pc' := 562) (x := (Int32.ofInt 2)) rfl rfl rfl ?_
    refine h_iadd (pc' := 563) rfl rfl hy3 ci_2 rfl (by omega) (by omega) (fun z9 hz9 => ?_)
    refine h_iald (pc' := 564) (v := s0 0 (b3 + 2)) rfl rfl rfl hz9 (by omega) (by omega) rfl (fun z10 hz10 => ?_)
    have tz10 := h_rgv hz10
    refine h_call (sp := false) (pc' := 567) (M := [(0, .ref 98), (1, .int z8), (2, .int z10)]) rfl rfl rfl rfl rfl rfl rfl rfl ?_
    refine h_aload_n (pc' := 1) rfl rfl rfl ?_
    refine h_iconst (pc' := 2) (x := (Int32.ofInt 0)) rfl rfl rfl ?_
    refine h_iload_n (pc' := 3) rfl rfl rfl ?_
    refine h_iload_n (pc' := 4) rfl rfl rfl ?_
    refine h_call (sp := false) (pc' := 7) (M := [(0, .ref 98), (1, .int (Int32.ofInt 0)), (2, .int z8), (3, .int z10)]) rfl rfl rfl rfl rfl rfl rfl rfl ?_
    refine h_aload_n (pc' := 1) rfl rfl rfl ?_
    refine h_iload_n (pc' := 2) rfl rfl rfl ?_
    refine h_call (sp := false) (pc' := 5) (M := [(0, .ref 98), (1, .int z8)]) rfl rfl rfl rfl rfl rfl rfl rfl ?_
    refine h_iload_n (pc' := 1) rfl rfl rfl ?_
    refine h_i2l (pc' := 2) rfl rfl hz8 (fun z11 hz11 => ?_)
    refine h_lconst (pc' := 3) (x := (Int64.ofInt 0)) rfl rfl rfl ?_
    refine h_aload_n (pc' := 4) rfl rfl rfl ?_
    refine h_getI (pc' := 7) (v := s0 98 1) rfl rfl rfl rfl rfl rfl (fun z12 hz12 => ?_)
    have tz12 := tf_98_1 I0
    refine h_iconst (pc' := 8) (x := (Int32.ofInt 1)) rfl rfl rfl ?_
    refine h_isub (pc' := 9) rfl rfl hz12 ci_1 rfl (by omega) (by omega) (fun z13 hz13 => ?_)
    refine h_i2l (pc' := 10) rfl rfl hz13 (fun z14 hz14 => ?_)
    refine h_calls (pc' := 13) (M := [(0, .long z11), (2, .long (Int64.ofInt 0)), (4, .long z14)]) rfl rfl rfl rfl rfl rfl ?_
    refine h_lload_n (pc' := 1) rfl rfl rfl ?_
    refine h_lload_n (pc' := 2) rfl rfl rfl ?_
    refine h_lcmp (pc' := 3) rfl rfl hz11 cl_0 (fun z15 hz15 => ?_)
    refine h_zlt (tg := 17) (pc' := 6) rfl rfl rfl rfl (fun c16 => ?_) (fun c16 => absurd c16 (by omega))
    replace c16 := (h_lcr hz15).1 c16
    clear hz15
    refine h_iconst (pc' := 18) (x := (Int32.ofInt 0)) rfl rfl rfl ?_
    refine h_zret rfl rfl ci_0 (by omega) (h_Kv ?_)
    refine h_zret rfl rfl ci_0 (by omega) (h_Kv ?_)
    refine h_zeq (tg := 21) (pc' := 8) rfl rfl rfl ci_0 (fun c17 => ?_) (fun c17 => absurd (Int.le_antisymm (by omega) (by omega)) c17)
    refine h_iconst (pc' := 22) (x := (Int32.ofInt (-1))) rfl rfl rfl ?_
    refine h_iret rfl rfl (h_Kv ?_)
    refine h_iret rfl rfl (h_Kv ?_)
    refine h_pop (pc' := 568) rfl rfl rfl ?_
    refine h_goto (pc' := 1441) rfl rfl ?_
    exact kk _ I0 (by first | exact d_tape.le j0 (Int.le_antisymm (by omega) (by omega)) (by omega) (fun j => rfl) (fun j => rfl) | (exfalso; omega)) (Int.le_antisymm (by omega) (by omega)) j2
  · refine h_iload_n (pc' := 5) rfl rfl rfl ?_
    refine h_aload_n (pc' := 6) rfl rfl rfl ?_
    refine h_getI (pc' := 9) (v := s0 10 8) rfl rfl rfl rfl rfl rfl (fun z18 hz18 => ?_)
    have tz18 := tf_10_8 I0
    refine h_cge (tg := 16) (pc' := 12) rfl rfl rfl hz2 hz18 (fun c19 => ?_) (fun c19 => ?_)
    · refine h_iconst (pc' := 17) (x := (Int32.ofInt 0)) rfl rfl rfl ?_
      refine h_zret rfl rfl ci_0 (by omega) (h_Kv ?_)
      refine h_zeq (tg := 27) (pc' := 11) rfl rfl rfl ci_0 (fun c20 => ?_) (fun c20 => absurd (Int.le_antisymm (by omega) (by omega)) c20)
      refine h_iconst (pc' := 28) (x := (Int32.ofInt (-1))) rfl rfl rfl ?_
      refine h_iret rfl rfl (h_Kv ?_)
      refine h_iret rfl rfl (h_Kv ?_)
      refine h_pop (pc' := 553) rfl rfl rfl ?_
      refine h_aload_n (pc' := 554) rfl rfl rfl ?_
      refine h_aload_n (pc' := 555) rfl rfl rfl ?_
      refine h_iload_n (pc' := 556) rfl rfl rfl ?_
      refine h_iconst (pc' := 557) (x := (Int32.ofInt 1)) rfl rfl rfl ?_
      refine h_iadd (pc' := 558) rfl rfl hy3 ci_1 rfl (by omega) (by omega) (fun z21 hz21 => ?_)
      refine h_iald (pc' := 559) (v := s0 0 (b3 + 1)) rfl rfl rfl hz21 (by omega) (by omega) rfl (fun z22 hz22 => ?_)
      have tz22 := h_rgv hz22
      refine h_aload_n (pc' := 560) rfl rfl rfl ?_
      refine h_iload_n (pc' := 561) rfl rfl rfl ?_
      refine h_iconst (pc' := 562) (x := (Int32.ofInt 2)) rfl rfl rfl ?_
      refine h_iadd (pc' := 563) rfl rfl hy3 ci_2 rfl (by omega) (by omega) (fun z23 hz23 => ?_)
      refine h_iald (pc' := 564) (v := s0 0 (b3 + 2)) rfl rfl rfl hz23 (by omega) (by omega) rfl (fun z24 hz24 => ?_)
      have tz24 := h_rgv hz24
      refine h_call (sp := false) (pc' := 567) (M := [(0, .ref 98), (1, .int z22), (2, .int z24)]) rfl rfl rfl rfl rfl rfl rfl rfl ?_
      refine h_aload_n (pc' := 1) rfl rfl rfl ?_
      refine h_iconst (pc' := 2) (x := (Int32.ofInt 0)) rfl rfl rfl ?_
      refine h_iload_n (pc' := 3) rfl rfl rfl ?_
      refine h_iload_n (pc' := 4) rfl rfl rfl ?_
      refine h_call (sp := false) (pc' := 7) (M := [(0, .ref 98), (1, .int (Int32.ofInt 0)), (2, .int z22), (3, .int z24)]) rfl rfl rfl rfl rfl rfl rfl rfl ?_
      refine h_aload_n (pc' := 1) rfl rfl rfl ?_
      refine h_iload_n (pc' := 2) rfl rfl rfl ?_
      refine h_call (sp := false) (pc' := 5) (M := [(0, .ref 98), (1, .int z22)]) rfl rfl rfl rfl rfl rfl rfl rfl ?_
      refine h_iload_n (pc' := 1) rfl rfl rfl ?_
      refine h_i2l (pc' := 2) rfl rfl hz22 (fun z25 hz25 => ?_)
      refine h_lconst (pc' := 3) (x := (Int64.ofInt 0)) rfl rfl rfl ?_
      refine h_aload_n (pc' := 4) rfl rfl rfl ?_
      refine h_getI (pc' := 7) (v := s0 98 1) rfl rfl rfl rfl rfl rfl (fun z26 hz26 => ?_)
      have tz26 := tf_98_1 I0
      refine h_iconst (pc' := 8) (x := (Int32.ofInt 1)) rfl rfl rfl ?_
      refine h_isub (pc' := 9) rfl rfl hz26 ci_1 rfl (by omega) (by omega) (fun z27 hz27 => ?_)
      refine h_i2l (pc' := 10) rfl rfl hz27 (fun z28 hz28 => ?_)
      refine h_calls (pc' := 13) (M := [(0, .long z25), (2, .long (Int64.ofInt 0)), (4, .long z28)]) rfl rfl rfl rfl rfl rfl ?_
      refine h_lload_n (pc' := 1) rfl rfl rfl ?_
      refine h_lload_n (pc' := 2) rfl rfl rfl ?_
      refine h_lcmp (pc' := 3) rfl rfl hz25 cl_0 (fun z29 hz29 => ?_)
      refine h_zlt (tg := 17) (pc' := 6) rfl rfl rfl rfl (fun c30 => absurd c30 (by omega)) (fun c30 => ?_)
      replace c30 := (h_lcr hz29).2.1 c30
      clear hz29
      refine h_lload_n (pc' := 7) rfl rfl rfl ?_
      refine h_lload (pc' := 9) rfl rfl rfl ?_
      refine h_lcmp (pc' := 10) rfl rfl hz25 hz28 (fun z31 hz31 => ?_)
      refine h_zgt (tg := 17) (pc' := 13) rfl rfl rfl rfl (fun c32 => ?_) (fun c32 => absurd c32 (by omega))
      replace c32 := (h_lcr hz31).2.2.2.1 c32
      clear hz31
      refine h_iconst (pc' := 18) (x := (Int32.ofInt 0)) rfl rfl rfl ?_
      refine h_zret rfl rfl ci_0 (by omega) (h_Kv ?_)
      refine h_zret rfl rfl ci_0 (by omega) (h_Kv ?_)
      refine h_zeq (tg := 21) (pc' := 8) rfl rfl rfl ci_0 (fun c33 => ?_) (fun c33 => absurd (Int.le_antisymm (by omega) (by omega)) c33)
      refine h_iconst (pc' := 22) (x := (Int32.ofInt (-1))) rfl rfl rfl ?_
      refine h_iret rfl rfl (h_Kv ?_)
      refine h_iret rfl rfl (h_Kv ?_)
      refine h_pop (pc' := 568) rfl rfl rfl ?_
      refine h_goto (pc' := 1441) rfl rfl ?_
      exact kk _ I0 (by first | exact d_tape.le j0 (Int.le_antisymm (by omega) (by omega)) (by omega) (fun j => rfl) (fun j => rfl) | (exfalso; omega)) (Int.le_antisymm (by omega) (by omega)) j2
    · refine h_iconst (pc' := 13) (x := (Int32.ofInt 1)) rfl rfl rfl ?_
      refine h_goto (pc' := 17) rfl rfl ?_
      refine h_zret rfl rfl ci_1 (by omega) (h_Kv ?_)
      refine h_zeq (tg := 27) (pc' := 11) rfl rfl rfl ci_1 (fun c34 => absurd c34 (by omega)) (fun c34 => ?_)
      refine h_aload_n (pc' := 12) rfl rfl rfl ?_
      refine h_getR (pc' := 15) rfl rfl rfl rfl rfl ?_
      refine h_iload_n (pc' := 16) rfl rfl rfl ?_
      refine h_call (sp := false) (pc' := 19) (M := [(0, .ref 10), (1, .int z4)]) rfl rfl rfl rfl rfl rfl rfl rfl ?_
      refine h_iload_n (pc' := 1) rfl rfl rfl ?_
      refine h_zlt (tg := 16) (pc' := 4) rfl rfl rfl hz4 (fun c35 => ?_) (fun c35 => ?_)
      · refine h_iconst (pc' := 17) (x := (Int32.ofInt 0)) rfl rfl rfl ?_
        refine h_zret rfl rfl ci_0 (by omega) (h_Kv ?_)
        refine h_zeq (tg := 27) (pc' := 22) rfl rfl rfl ci_0 (fun c36 => ?_) (fun c36 => absurd (Int.le_antisymm (by omega) (by omega)) c36)
        refine h_iconst (pc' := 28) (x := (Int32.ofInt (-1))) rfl rfl rfl ?_
        refine h_iret rfl rfl (h_Kv ?_)
        refine h_iret rfl rfl (h_Kv ?_)
        refine h_pop (pc' := 553) rfl rfl rfl ?_
        refine h_aload_n (pc' := 554) rfl rfl rfl ?_
        refine h_aload_n (pc' := 555) rfl rfl rfl ?_
        refine h_iload_n (pc' := 556) rfl rfl rfl ?_
        refine h_iconst (pc' := 557) (x := (Int32.ofInt 1)) rfl rfl rfl ?_
        refine h_iadd (pc' := 558) rfl rfl hy3 ci_1 rfl (by omega) (by omega) (fun z37 hz37 => ?_)
        refine h_iald (pc' := 559) (v := s0 0 (b3 + 1)) rfl rfl rfl hz37 (by omega) (by omega) rfl (fun z38 hz38 => ?_)
        have tz38 := h_rgv hz38
        refine h_aload_n (pc' := 560) rfl rfl rfl ?_
        refine h_iload_n (pc' := 561) rfl rfl rfl ?_
        refine h_iconst (pc' := 562) (x := (Int32.ofInt 2)) rfl rfl rfl ?_
        refine h_iadd (pc' := 563) rfl rfl hy3 ci_2 rfl (by omega) (by omega) (fun z39 hz39 => ?_)
        refine h_iald (pc' := 564) (v := s0 0 (b3 + 2)) rfl rfl rfl hz39 (by omega) (by omega) rfl (fun z40 hz40 => ?_)
        have tz40 := h_rgv hz40
        refine h_call (sp := false) (pc' := 567) (M := [(0, .ref 98), (1, .int z38), (2, .int z40)]) rfl rfl rfl rfl rfl rfl rfl rfl ?_
        refine h_aload_n (pc' := 1) rfl rfl rfl ?_
        refine h_iconst (pc' := 2) (x := (Int32.ofInt 0)) rfl rfl rfl ?_
        refine h_iload_n (pc' := 3) rfl rfl rfl ?_
        refine h_iload_n (pc' := 4) rfl rfl rfl ?_
        refine h_call (sp := false) (pc' := 7) (M := [(0, .ref 98), (1, .int (Int32.ofInt 0)), (2, .int z38), (3, .int z40)]) rfl rfl rfl rfl rfl rfl rfl rfl ?_
        refine h_aload_n (pc' := 1) rfl rfl rfl ?_
        refine h_iload_n (pc' := 2) rfl rfl rfl ?_
        refine h_call (sp := false) (pc' := 5) (M := [(0, .ref 98), (1, .int z38)]) rfl rfl rfl rfl rfl rfl rfl rfl ?_
        refine h_iload_n (pc' := 1) rfl rfl rfl ?_
        refine h_i2l (pc' := 2) rfl rfl hz38 (fun z41 hz41 => ?_)
        refine h_lconst (pc' := 3) (x := (Int64.ofInt 0)) rfl rfl rfl ?_
        refine h_aload_n (pc' := 4) rfl rfl rfl ?_
        refine h_getI (pc' := 7) (v := s0 98 1) rfl rfl rfl rfl rfl rfl (fun z42 hz42 => ?_)
        have tz42 := tf_98_1 I0
        refine h_iconst (pc' := 8) (x := (Int32.ofInt 1)) rfl rfl rfl ?_
        refine h_isub (pc' := 9) rfl rfl hz42 ci_1 rfl (by omega) (by omega) (fun z43 hz43 => ?_)
        refine h_i2l (pc' := 10) rfl rfl hz43 (fun z44 hz44 => ?_)
        refine h_calls (pc' := 13) (M := [(0, .long z41), (2, .long (Int64.ofInt 0)), (4, .long z44)]) rfl rfl rfl rfl rfl rfl ?_
        refine h_lload_n (pc' := 1) rfl rfl rfl ?_
        refine h_lload_n (pc' := 2) rfl rfl rfl ?_
        refine h_lcmp (pc' := 3) rfl rfl hz41 cl_0 (fun z45 hz45 => ?_)
        refine h_zlt (tg := 17) (pc' := 6) rfl rfl rfl rfl (fun c46 => absurd c46 (by omega)) (fun c46 => ?_)
        replace c46 := (h_lcr hz45).2.1 c46
        clear hz45
        refine h_lload_n (pc' := 7) rfl rfl rfl ?_
        refine h_lload (pc' := 9) rfl rfl rfl ?_
        refine h_lcmp (pc' := 10) rfl rfl hz41 hz44 (fun z47 hz47 => ?_)
        refine h_zgt (tg := 17) (pc' := 13) rfl rfl rfl rfl (fun c48 => absurd c48 (by omega)) (fun c48 => ?_)
        replace c48 := (h_lcr hz47).2.2.1 c48
        clear hz47
        refine h_iconst (pc' := 14) (x := (Int32.ofInt 1)) rfl rfl rfl ?_
        refine h_goto (pc' := 18) rfl rfl ?_
        refine h_zret rfl rfl ci_1 (by omega) (h_Kv ?_)
        refine h_zret rfl rfl ci_1 (by omega) (h_Kv ?_)
        refine h_zeq (tg := 21) (pc' := 8) rfl rfl rfl ci_1 (fun c49 => absurd c49 (by omega)) (fun c49 => ?_)
        refine h_aload_n (pc' := 9) rfl rfl rfl ?_
        refine h_iload_n (pc' := 10) rfl rfl rfl ?_
        refine h_call (sp := false) (pc' := 13) (M := [(0, .ref 98), (1, .int z40)]) rfl rfl rfl rfl rfl rfl rfl rfl ?_
        refine h_iload_n (pc' := 1) rfl rfl rfl ?_
        refine h_i2l (pc' := 2) rfl rfl hz40 (fun z50 hz50 => ?_)
        refine h_lconst (pc' := 3) (x := (Int64.ofInt 0)) rfl rfl rfl ?_
        refine h_aload_n (pc' := 4) rfl rfl rfl ?_
        refine h_getI (pc' := 7) (v := s0 98 1) rfl rfl rfl rfl rfl rfl (fun z51 hz51 => ?_)
        have tz51 := tf_98_1 I0
        refine h_iconst (pc' := 8) (x := (Int32.ofInt 1)) rfl rfl rfl ?_
        refine h_isub (pc' := 9) rfl rfl hz51 ci_1 rfl (by omega) (by omega) (fun z52 hz52 => ?_)
        refine h_i2l (pc' := 10) rfl rfl hz52 (fun z53 hz53 => ?_)
        refine h_calls (pc' := 13) (M := [(0, .long z50), (2, .long (Int64.ofInt 0)), (4, .long z53)]) rfl rfl rfl rfl rfl rfl ?_
        refine h_lload_n (pc' := 1) rfl rfl rfl ?_
        refine h_lload_n (pc' := 2) rfl rfl rfl ?_
        refine h_lcmp (pc' := 3) rfl rfl hz50 cl_0 (fun z54 hz54 => ?_)
        refine h_zlt (tg := 17) (pc' := 6) rfl rfl rfl rfl (fun c55 => ?_) (fun c55 => absurd c55 (by omega))
        replace c55 := (h_lcr hz54).1 c55
        clear hz54
        refine h_iconst (pc' := 18) (x := (Int32.ofInt 0)) rfl rfl rfl ?_
        refine h_zret rfl rfl ci_0 (by omega) (h_Kv ?_)
        refine h_zret rfl rfl ci_0 (by omega) (h_Kv ?_)
        refine h_zeq (tg := 21) (pc' := 16) rfl rfl rfl ci_0 (fun c56 => ?_) (fun c56 => absurd (Int.le_antisymm (by omega) (by omega)) c56)
        refine h_iconst (pc' := 22) (x := (Int32.ofInt (-1))) rfl rfl rfl ?_
        refine h_iret rfl rfl (h_Kv ?_)
        refine h_iret rfl rfl (h_Kv ?_)
        refine h_pop (pc' := 568) rfl rfl rfl ?_
        refine h_goto (pc' := 1441) rfl rfl ?_
        exact kk _ I0 (by first | exact d_tape.le j0 (Int.le_antisymm (by omega) (by omega)) (by omega) (fun j => rfl) (fun j => rfl) | (exfalso; omega)) (Int.le_antisymm (by omega) (by omega)) j2
      · refine h_iload_n (pc' := 5) rfl rfl rfl ?_
        refine h_aload_n (pc' := 6) rfl rfl rfl ?_
        refine h_getI (pc' := 9) (v := s0 10 8) rfl rfl rfl rfl rfl rfl (fun z57 hz57 => ?_)
        have tz57 := tf_10_8 I0
        refine h_cge (tg := 16) (pc' := 12) rfl rfl rfl hz4 hz57 (fun c58 => ?_) (fun c58 => ?_)
        · refine h_iconst (pc' := 17) (x := (Int32.ofInt 0)) rfl rfl rfl ?_
          refine h_zret rfl rfl ci_0 (by omega) (h_Kv ?_)
          refine h_zeq (tg := 27) (pc' := 22) rfl rfl rfl ci_0 (fun c59 => ?_) (fun c59 => absurd (Int.le_antisymm (by omega) (by omega)) c59)
          refine h_iconst (pc' := 28) (x := (Int32.ofInt (-1))) rfl rfl rfl ?_
          refine h_iret rfl rfl (h_Kv ?_)
          refine h_iret rfl rfl (h_Kv ?_)
          refine h_pop (pc' := 553) rfl rfl rfl ?_
          refine h_aload_n (pc' := 554) rfl rfl rfl ?_
          refine h_aload_n (pc' := 555) rfl rfl rfl ?_
          refine h_iload_n (pc' := 556) rfl rfl rfl ?_
          refine h_iconst (pc' := 557) (x := (Int32.ofInt 1)) rfl rfl rfl ?_
          refine h_iadd (pc' := 558) rfl rfl hy3 ci_1 rfl (by omega) (by omega) (fun z60 hz60 => ?_)
          refine h_iald (pc' := 559) (v := s0 0 (b3 + 1)) rfl rfl rfl hz60 (by omega) (by omega) rfl (fun z61 hz61 => ?_)
          have tz61 := h_rgv hz61
          refine h_aload_n (pc' := 560) rfl rfl rfl ?_
          refine h_iload_n (pc' := 561) rfl rfl rfl ?_
          refine h_iconst (pc' := 562) (x := (Int32.ofInt 2)) rfl rfl rfl ?_
          refine h_iadd (pc' := 563) rfl rfl hy3 ci_2 rfl (by omega) (by omega) (fun z62 hz62 => ?_)
          refine h_iald (pc' := 564) (v := s0 0 (b3 + 2)) rfl rfl rfl hz62 (by omega) (by omega) rfl (fun z63 hz63 => ?_)
          have tz63 := h_rgv hz63
          refine h_call (sp := false) (pc' := 567) (M := [(0, .ref 98), (1, .int z61), (2, .int z63)]) rfl rfl rfl rfl rfl rfl rfl rfl ?_
          refine h_aload_n (pc' := 1) rfl rfl rfl ?_
          refine h_iconst (pc' := 2) (x := (Int32.ofInt 0)) rfl rfl rfl ?_
          refine h_iload_n (pc' := 3) rfl rfl rfl ?_
          refine h_iload_n (pc' := 4) rfl rfl rfl ?_
          refine h_call (sp := false) (pc' := 7) (M := [(0, .ref 98), (1, .int (Int32.ofInt 0)), (2, .int z61), (3, .int z63)]) rfl rfl rfl rfl rfl rfl rfl rfl ?_
          refine h_aload_n (pc' := 1) rfl rfl rfl ?_
          refine h_iload_n (pc' := 2) rfl rfl rfl ?_
          refine h_call (sp := false) (pc' := 5) (M := [(0, .ref 98), (1, .int z61)]) rfl rfl rfl rfl rfl rfl rfl rfl ?_
          refine h_iload_n (pc' := 1) rfl rfl rfl ?_
          refine h_i2l (pc' := 2) rfl rfl hz61 (fun z64 hz64 => ?_)
          refine h_lconst (pc' := 3) (x := (Int64.ofInt 0)) rfl rfl rfl ?_
          refine h_aload_n (pc' := 4) rfl rfl rfl ?_
          refine h_getI (pc' := 7) (v := s0 98 1) rfl rfl rfl rfl rfl rfl (fun z65 hz65 => ?_)
          have tz65 := tf_98_1 I0
          refine h_iconst (pc' := 8) (x := (Int32.ofInt 1)) rfl rfl rfl ?_
          refine h_isub (pc' := 9) rfl rfl hz65 ci_1 rfl (by omega) (by omega) (fun z66 hz66 => ?_)
          refine h_i2l (pc' := 10) rfl rfl hz66 (fun z67 hz67 => ?_)
          refine h_calls (pc' := 13) (M := [(0, .long z64), (2, .long (Int64.ofInt 0)), (4, .long z67)]) rfl rfl rfl rfl rfl rfl ?_
          refine h_lload_n (pc' := 1) rfl rfl rfl ?_
          refine h_lload_n (pc' := 2) rfl rfl rfl ?_
          refine h_lcmp (pc' := 3) rfl rfl hz64 cl_0 (fun z68 hz68 => ?_)
          refine h_zlt (tg := 17) (pc' := 6) rfl rfl rfl rfl (fun c69 => absurd c69 (by omega)) (fun c69 => ?_)
          replace c69 := (h_lcr hz68).2.1 c69
          clear hz68
          refine h_lload_n (pc' := 7) rfl rfl rfl ?_
          refine h_lload (pc' := 9) rfl rfl rfl ?_
          refine h_lcmp (pc' := 10) rfl rfl hz64 hz67 (fun z70 hz70 => ?_)
          refine h_zgt (tg := 17) (pc' := 13) rfl rfl rfl rfl (fun c71 => absurd c71 (by omega)) (fun c71 => ?_)
          replace c71 := (h_lcr hz70).2.2.1 c71
          clear hz70
          refine h_iconst (pc' := 14) (x := (Int32.ofInt 1)) rfl rfl rfl ?_
          refine h_goto (pc' := 18) rfl rfl ?_
          refine h_zret rfl rfl ci_1 (by omega) (h_Kv ?_)
          refine h_zret rfl rfl ci_1 (by omega) (h_Kv ?_)
          refine h_zeq (tg := 21) (pc' := 8) rfl rfl rfl ci_1 (fun c72 => absurd c72 (by omega)) (fun c72 => ?_)
          refine h_aload_n (pc' := 9) rfl rfl rfl ?_
          refine h_iload_n (pc' := 10) rfl rfl rfl ?_
          refine h_call (sp := false) (pc' := 13) (M := [(0, .ref 98), (1, .int z63)]) rfl rfl rfl rfl rfl rfl rfl rfl ?_
          refine h_iload_n (pc' := 1) rfl rfl rfl ?_
          refine h_i2l (pc' := 2) rfl rfl hz63 (fun z73 hz73 => ?_)
          refine h_lconst (pc' := 3) (x := (Int64.ofInt 0)) rfl rfl rfl ?_
          refine h_aload_n (pc' := 4) rfl rfl rfl ?_
          refine h_getI (pc' := 7) (v := s0 98 1) rfl rfl rfl rfl rfl rfl (fun z74 hz74 => ?_)
          have tz74 := tf_98_1 I0
          refine h_iconst (pc' := 8) (x := (Int32.ofInt 1)) rfl rfl rfl ?_
          refine h_isub (pc' := 9) rfl rfl hz74 ci_1 rfl (by omega) (by omega) (fun z75 hz75 => ?_)
          refine h_i2l (pc' := 10) rfl rfl hz75 (fun z76 hz76 => ?_)
          refine h_calls (pc' := 13) (M := [(0, .long z73), (2, .long (Int64.ofInt 0)), (4, .long z76)]) rfl rfl rfl rfl rfl rfl ?_
          refine h_lload_n (pc' := 1) rfl rfl rfl ?_
          refine h_lload_n (pc' := 2) rfl rfl rfl ?_
          refine h_lcmp (pc' := 3) rfl rfl hz73 cl_0 (fun z77 hz77 => ?_)
          refine h_zlt (tg := 17) (pc' := 6) rfl rfl rfl rfl (fun c78 => absurd c78 (by omega)) (fun c78 => ?_)
          replace c78 := (h_lcr hz77).2.1 c78
          clear hz77
          refine h_lload_n (pc' := 7) rfl rfl rfl ?_
          refine h_lload (pc' := 9) rfl rfl rfl ?_
          refine h_lcmp (pc' := 10) rfl rfl hz73 hz76 (fun z79 hz79 => ?_)
          refine h_zgt (tg := 17) (pc' := 13) rfl rfl rfl rfl (fun c80 => ?_) (fun c80 => absurd c80 (by omega))
          replace c80 := (h_lcr hz79).2.2.2.1 c80
          clear hz79
          refine h_iconst (pc' := 18) (x := (Int32.ofInt 0)) rfl rfl rfl ?_
          refine h_zret rfl rfl ci_0 (by omega) (h_Kv ?_)
          refine h_zret rfl rfl ci_0 (by omega) (h_Kv ?_)
          refine h_zeq (tg := 21) (pc' := 16) rfl rfl rfl ci_0 (fun c81 => ?_) (fun c81 => absurd (Int.le_antisymm (by omega) (by omega)) c81)
          refine h_iconst (pc' := 22) (x := (Int32.ofInt (-1))) rfl rfl rfl ?_
          refine h_iret rfl rfl (h_Kv ?_)
          refine h_iret rfl rfl (h_Kv ?_)
          refine h_pop (pc' := 568) rfl rfl rfl ?_
          refine h_goto (pc' := 1441) rfl rfl ?_
          exact kk _ I0 (by first | exact d_tape.le j0 (Int.le_antisymm (by omega) (by omega)) (by omega) (fun j => rfl) (fun j => rfl) | (exfalso; omega)) (Int.le_antisymm (by omega) (by omega)) j2
        · refine h_iconst (pc' := 13) (x := (Int32.ofInt 1)) rfl rfl rfl ?_
          refine h_goto (pc' := 17) rfl rfl ?_
          refine h_zret rfl rfl ci_1 (by omega) (h_Kv ?_)
          refine h_zeq (tg := 27) (pc' := 22) rfl rfl rfl ci_1 (fun c82 => absurd c82 (by omega)) (fun c82 => ?_)
          refine h_iload_n (pc' := 23) rfl rfl rfl ?_
          refine h_iload_n (pc' := 24) rfl rfl rfl ?_
          refine h_cne (tg := 29) (pc' := 27) rfl rfl rfl hz2 hz4 (fun c83 => ?_) (fun c83 => ?_)
          · refine h_aload_n (pc' := 30) rfl rfl rfl ?_
            refine h_iload_n (pc' := 31) rfl rfl rfl ?_
            refine h_iload_n (pc' := 32) rfl rfl rfl ?_
            refine h_call (sp := false) (pc' := 35) (M := [(0, .ref 13), (1, .int z2), (2, .int z4)]) rfl rfl rfl rfl rfl rfl rfl rfl ?_
            refine h_aload_n (pc' := 1) rfl rfl rfl ?_
            refine h_call (sp := false) (pc' := 4) (M := [(0, .ref 13)]) rfl rfl rfl rfl rfl rfl rfl rfl ?_
            refine h_aload_n (pc' := 1) rfl rfl rfl ?_
            refine h_getI (pc' := 4) (v := s0 13 2) rfl rfl rfl rfl rfl rfl (fun z84 hz84 => ?_)
            have tz84 := tf_13_2 I0
            refine h_iconst (pc' := 5) (x := (Int32.ofInt 3)) rfl rfl rfl ?_
            refine h_clt (tg := 12) (pc' := 8) rfl rfl rfl hz84 ci_3 (fun c85 => ?_) (fun c85 => ?_)
            · refine h_iconst (pc' := 13) (x := (Int32.ofInt 0)) rfl rfl rfl ?_
              refine h_zret rfl rfl ci_0 (by omega) (h_Kv ?_)
              refine h_zeq (tg := 9) (pc' := 7) rfl rfl rfl ci_0 (fun c86 => ?_) (fun c86 => absurd (Int.le_antisymm (by omega) (by omega)) c86)
              refine h_aload_n (pc' := 10) rfl rfl rfl ?_
              refine h_getR (pc' := 13) rfl rfl rfl rfl rfl ?_
              refine h_aload_n (pc' := 14) rfl rfl rfl ?_
              refine h_getI (pc' := 17) (v := s0 13 2) rfl rfl rfl rfl rfl rfl (fun z87 hz87 => ?_)
              have tz87 := tf_13_2 I0
              refine h_iload_n (pc' := 18) rfl rfl rfl ?_
              refine h_iast (pc' := 19) rfl rfl rfl rfl hz87 (by omega) (by omega) hz2 (h_fgt (E := fun s => s 64 1 = s0 64 1 ∧ s 98 11 = s0 98 11 ∧ s 64 4 = s0 64 4 ∧ s 98 16 = s0 98 16 ∧ s 63 2 = s0 63 2 ∧ s 10 8 = s0 10 8 ∧ s 98 1 = s0 98 1 ∧ s 10 9 = s0 10 9 ∧ s 98 2 = s0 98 2 ∧ s 10 10 = s0 10 10 ∧ s 99 43 = s0 99 43 ∧ s 13 2 = s0 13 2 ∧ s 99 18 = s0 99 18 ∧ s 16 2 = s0 16 2 ∧ s 99 25 = s0 99 25 ∧ s 62 0 = s0 62 0 ∧ s 110 0 = s0 110 0 ∧ s 62 1 = s0 62 1 ∧ s 110 1 = s0 110 1 ∧ s = h_up s0 14 (s0 13 2) (s0 0 (b3 + 1))) _ (in_14 I0 (by omega)) (F0_.up rfl) ⟨rfl, rfl, rfl, rfl, rfl, rfl, rfl, rfl, rfl, rfl, rfl, rfl, rfl, rfl, rfl, rfl, rfl, rfl, rfl, rfl⟩ (fun s88 Is88 Fs88 (es88 : s88 64 1 = s0 64 1 ∧ s88 98 11 = s0 98 11 ∧ s88 64 4 = s0 64 4 ∧ s88 98 16 = s0 98 16 ∧ s88 63 2 = s0 63 2 ∧ s88 10 8 = s0 10 8 ∧ s88 98 1 = s0 98 1 ∧ s88 10 9 = s0 10 9 ∧ s88 98 2 = s0 98 2 ∧ s88 10 10 = s0 10 10 ∧ s88 99 43 = s0 99 43 ∧ s88 13 2 = s0 13 2 ∧ s88 99 18 = s0 99 18 ∧ s88 16 2 = s0 16 2 ∧ s88 99 25 = s0 99 25 ∧ s88 62 0 = s0 62 0 ∧ s88 110 0 = s0 110 0 ∧ s88 62 1 = s0 62 1 ∧ s88 110 1 = s0 110 1 ∧ s88 = h_up s0 14 (s0 13 2) (s0 0 (b3 + 1))) => ?_))
              have us88 := es88.2.2.2.2.2.2.2.2.2.2.2.2.2.2.2.2.2.2.2
              have Zs88 : ∀ i, s88 0 i = s0 0 i := fun i => (h_upo us88 rfl i).trans rfl
              refine h_aload_n (pc' := 20) rfl rfl rfl ?_
              refine h_getR (pc' := 23) rfl rfl rfl rfl rfl ?_
              refine h_aload_n (pc' := 24) rfl rfl rfl ?_
              refine h_getI (pc' := 27) (v := s0 13 2) rfl rfl rfl rfl rfl es88.2.2.2.2.2.2.2.2.2.2.2.1 (fun z89 hz89 => ?_)
              have tz89 := tf_13_2 I0
              refine h_iload_n (pc' := 28) rfl rfl rfl ?_
              refine h_iast (pc' := 29) rfl rfl rfl rfl hz89 (by omega) (by omega) hz4 (h_fgt (E := fun s => s 64 1 = s0 64 1 ∧ s 98 11 = s0 98 11 ∧ s 64 4 = s0 64 4 ∧ s 98 16 = s0 98 16 ∧ s 63 2 = s0 63 2 ∧ s 10 8 = s0 10 8 ∧ s 98 1 = s0 98 1 ∧ s 10 9 = s0 10 9 ∧ s 98 2 = s0 98 2 ∧ s 10 10 = s0 10 10 ∧ s 99 43 = s0 99 43 ∧ s 13 2 = s0 13 2 ∧ s 99 18 = s0 99 18 ∧ s 16 2 = s0 16 2 ∧ s 99 25 = s0 99 25 ∧ s 62 0 = s0 62 0 ∧ s 110 0 = s0 110 0 ∧ s 62 1 = s0 62 1 ∧ s 110 1 = s0 110 1 ∧ s = h_up s88 15 (s0 13 2) (s0 0 (b3 + 2))) _ (in_15 Is88 (by omega)) (Fs88.up rfl) ⟨es88.1, es88.2.1, es88.2.2.1, es88.2.2.2.1, es88.2.2.2.2.1, es88.2.2.2.2.2.1, es88.2.2.2.2.2.2.1, es88.2.2.2.2.2.2.2.1, es88.2.2.2.2.2.2.2.2.1, es88.2.2.2.2.2.2.2.2.2.1, es88.2.2.2.2.2.2.2.2.2.2.1, es88.2.2.2.2.2.2.2.2.2.2.2.1, es88.2.2.2.2.2.2.2.2.2.2.2.2.1, es88.2.2.2.2.2.2.2.2.2.2.2.2.2.1, es88.2.2.2.2.2.2.2.2.2.2.2.2.2.2.1, es88.2.2.2.2.2.2.2.2.2.2.2.2.2.2.2.1, es88.2.2.2.2.2.2.2.2.2.2.2.2.2.2.2.2.1, es88.2.2.2.2.2.2.2.2.2.2.2.2.2.2.2.2.2.1, es88.2.2.2.2.2.2.2.2.2.2.2.2.2.2.2.2.2.2.1, rfl⟩ (fun s90 Is90 Fs90 (es90 : s90 64 1 = s0 64 1 ∧ s90 98 11 = s0 98 11 ∧ s90 64 4 = s0 64 4 ∧ s90 98 16 = s0 98 16 ∧ s90 63 2 = s0 63 2 ∧ s90 10 8 = s0 10 8 ∧ s90 98 1 = s0 98 1 ∧ s90 10 9 = s0 10 9 ∧ s90 98 2 = s0 98 2 ∧ s90 10 10 = s0 10 10 ∧ s90 99 43 = s0 99 43 ∧ s90 13 2 = s0 13 2 ∧ s90 99 18 = s0 99 18 ∧ s90 16 2 = s0 16 2 ∧ s90 99 25 = s0 99 25 ∧ s90 62 0 = s0 62 0 ∧ s90 110 0 = s0 110 0 ∧ s90 62 1 = s0 62 1 ∧ s90 110 1 = s0 110 1 ∧ s90 = h_up s88 15 (s0 13 2) (s0 0 (b3 + 2))) => ?_))
              clear es88
              have us90 := es90.2.2.2.2.2.2.2.2.2.2.2.2.2.2.2.2.2.2.2
              have Zs90 : ∀ i, s90 0 i = s0 0 i := fun i => (h_upo us90 rfl i).trans (Zs88 i)
              refine h_aload_n (pc' := 30) rfl rfl rfl ?_
              refine h_dup (pc' := 31) rfl rfl rfl ?_
              refine h_getI (pc' := 34) (v := s0 13 2) rfl rfl rfl rfl rfl es90.2.2.2.2.2.2.2.2.2.2.2.1 (fun z91 hz91 => ?_)
              have tz91 := tf_13_2 I0
              refine h_iconst (pc' := 35) (x := (Int32.ofInt 1)) rfl rfl rfl ?_
              refine h_iadd (pc' := 36) rfl rfl hz91 ci_1 rfl (by omega) (by omega) (fun z92 hz92 => ?_)
              refine h_put (pc' := 39) rfl rfl rfl rfl rfl rfl hz92 rfl (h_fgt (E := fun s => s 64 1 = s0 64 1 ∧ s 98 11 = s0 98 11 ∧ s 64 4 = s0 64 4 ∧ s 98 16 = s0 98 16 ∧ s 63 2 = s0 63 2 ∧ s 10 8 = s0 10 8 ∧ s 98 1 = s0 98 1 ∧ s 10 9 = s0 10 9 ∧ s 98 2 = s0 98 2 ∧ s 10 10 = s0 10 10 ∧ s 99 43 = s0 99 43 ∧ s 13 2 = ((s0 13 2) + 1) ∧ s 99 18 = s0 99 18 ∧ s 16 2 = s0 16 2 ∧ s 99 25 = s0 99 25 ∧ s 62 0 = s0 62 0 ∧ s 110 0 = s0 110 0 ∧ s 62 1 = s0 62 1 ∧ s 110 1 = s0 110 1 ∧ s = h_up s90 13 2 ((s0 13 2) + 1)) _ (if_13_2 Is90 (by omega)) (Fs90.up rfl) ⟨es90.1, es90.2.1, es90.2.2.1, es90.2.2.2.1, es90.2.2.2.2.1, es90.2.2.2.2.2.1, es90.2.2.2.2.2.2.1, es90.2.2.2.2.2.2.2.1, es90.2.2.2.2.2.2.2.2.1, es90.2.2.2.2.2.2.2.2.2.1, es90.2.2.2.2.2.2.2.2.2.2.1, rfl, es90.2.2.2.2.2.2.2.2.2.2.2.2.1, es90.2.2.2.2.2.2.2.2.2.2.2.2.2.1, es90.2.2.2.2.2.2.2.2.2.2.2.2.2.2.1, es90.2.2.2.2.2.2.2.2.2.2.2.2.2.2.2.1, es90.2.2.2.2.2.2.2.2.2.2.2.2.2.2.2.2.1, es90.2.2.2.2.2.2.2.2.2.2.2.2.2.2.2.2.2.1, es90.2.2.2.2.2.2.2.2.2.2.2.2.2.2.2.2.2.2.1, rfl⟩ (fun s93 Is93 Fs93 (es93 : s93 64 1 = s0 64 1 ∧ s93 98 11 = s0 98 11 ∧ s93 64 4 = s0 64 4 ∧ s93 98 16 = s0 98 16 ∧ s93 63 2 = s0 63 2 ∧ s93 10 8 = s0 10 8 ∧ s93 98 1 = s0 98 1 ∧ s93 10 9 = s0 10 9 ∧ s93 98 2 = s0 98 2 ∧ s93 10 10 = s0 10 10 ∧ s93 99 43 = s0 99 43 ∧ s93 13 2 = ((s0 13 2) + 1) ∧ s93 99 18 = s0 99 18 ∧ s93 16 2 = s0 16 2 ∧ s93 99 25 = s0 99 25 ∧ s93 62 0 = s0 62 0 ∧ s93 110 0 = s0 110 0 ∧ s93 62 1 = s0 62 1 ∧ s93 110 1 = s0 110 1 ∧ s93 = h_up s90 13 2 ((s0 13 2) + 1)) => ?_))
              clear es90
              have us93 := es93.2.2.2.2.2.2.2.2.2.2.2.2.2.2.2.2.2.2.2
              have Zs93 : ∀ i, s93 0 i = s0 0 i := fun i => (h_upo us93 rfl i).trans (Zs90 i)
              refine h_iconst (pc' := 40) (x := (Int32.ofInt 1)) rfl rfl rfl ?_
              refine h_zret rfl rfl ci_1 (by omega) (h_Kv ?_)
              refine h_zeq (tg := 45) (pc' := 38) rfl rfl rfl ci_1 (fun c94 => absurd c94 (by omega)) (fun c94 => ?_)
              refine h_aload_n (pc' := 39) rfl rfl rfl ?_
              refine h_getI (pc' := 42) (v := ((s0 13 2) + 1)) rfl rfl rfl rfl rfl es93.2.2.2.2.2.2.2.2.2.2.2.1 (fun z95 hz95 => ?_)
              refine h_goto (pc' := 47) rfl rfl ?_
              refine h_iret rfl rfl (h_Kv ?_)
              refine h_iret rfl rfl (h_Kv ?_)
              refine h_pop (pc' := 553) rfl rfl rfl ?_
              refine h_aload_n (pc' := 554) rfl rfl rfl ?_
              refine h_aload_n (pc' := 555) rfl rfl rfl ?_
              refine h_iload_n (pc' := 556) rfl rfl rfl ?_
              refine h_iconst (pc' := 557) (x := (Int32.ofInt 1)) rfl rfl rfl ?_
              refine h_iadd (pc' := 558) rfl rfl hy3 ci_1 rfl (by omega) (by omega) (fun z96 hz96 => ?_)
              refine h_iald (pc' := 559) (v := s0 0 (b3 + 1)) rfl rfl rfl hz96 (by omega) (by omega) (Zs93 _) (fun z97 hz97 => ?_)
              have tz97 := h_rgv hz97
              refine h_aload_n (pc' := 560) rfl rfl rfl ?_
              refine h_iload_n (pc' := 561) rfl rfl rfl ?_
              refine h_iconst (pc' := 562) (x := (Int32.ofInt 2)) rfl rfl rfl ?_
              refine h_iadd (pc' := 563) rfl rfl hy3 ci_2 rfl (by omega) (by omega) (fun z98 hz98 => ?_)
              refine h_iald (pc' := 564) (v := s0 0 (b3 + 2)) rfl rfl rfl hz98 (by omega) (by omega) (Zs93 _) (fun z99 hz99 => ?_)
              have tz99 := h_rgv hz99
              refine h_call (sp := false) (pc' := 567) (M := [(0, .ref 98), (1, .int z97), (2, .int z99)]) rfl rfl rfl rfl rfl rfl rfl rfl ?_
              refine h_aload_n (pc' := 1) rfl rfl rfl ?_
              refine h_iconst (pc' := 2) (x := (Int32.ofInt 0)) rfl rfl rfl ?_
              refine h_iload_n (pc' := 3) rfl rfl rfl ?_
              refine h_iload_n (pc' := 4) rfl rfl rfl ?_
              refine h_call (sp := false) (pc' := 7) (M := [(0, .ref 98), (1, .int (Int32.ofInt 0)), (2, .int z97), (3, .int z99)]) rfl rfl rfl rfl rfl rfl rfl rfl ?_
              refine h_aload_n (pc' := 1) rfl rfl rfl ?_
              refine h_iload_n (pc' := 2) rfl rfl rfl ?_
              refine h_call (sp := false) (pc' := 5) (M := [(0, .ref 98), (1, .int z97)]) rfl rfl rfl rfl rfl rfl rfl rfl ?_
              refine h_iload_n (pc' := 1) rfl rfl rfl ?_
              refine h_i2l (pc' := 2) rfl rfl hz97 (fun z100 hz100 => ?_)
              refine h_lconst (pc' := 3) (x := (Int64.ofInt 0)) rfl rfl rfl ?_
              refine h_aload_n (pc' := 4) rfl rfl rfl ?_
              refine h_getI (pc' := 7) (v := s0 98 1) rfl rfl rfl rfl rfl es93.2.2.2.2.2.2.1 (fun z101 hz101 => ?_)
              have tz101 := tf_98_1 I0
              refine h_iconst (pc' := 8) (x := (Int32.ofInt 1)) rfl rfl rfl ?_
              refine h_isub (pc' := 9) rfl rfl hz101 ci_1 rfl (by omega) (by omega) (fun z102 hz102 => ?_)
              refine h_i2l (pc' := 10) rfl rfl hz102 (fun z103 hz103 => ?_)
              refine h_calls (pc' := 13) (M := [(0, .long z100), (2, .long (Int64.ofInt 0)), (4, .long z103)]) rfl rfl rfl rfl rfl rfl ?_
              refine h_lload_n (pc' := 1) rfl rfl rfl ?_
              refine h_lload_n (pc' := 2) rfl rfl rfl ?_
              refine h_lcmp (pc' := 3) rfl rfl hz100 cl_0 (fun z104 hz104 => ?_)
              refine h_zlt (tg := 17) (pc' := 6) rfl rfl rfl rfl (fun c105 => absurd c105 (by omega)) (fun c105 => ?_)
              replace c105 := (h_lcr hz104).2.1 c105
              clear hz104
              refine h_lload_n (pc' := 7) rfl rfl rfl ?_
              refine h_lload (pc' := 9) rfl rfl rfl ?_
              refine h_lcmp (pc' := 10) rfl rfl hz100 hz103 (fun z106 hz106 => ?_)
              refine h_zgt (tg := 17) (pc' := 13) rfl rfl rfl rfl (fun c107 => absurd c107 (by omega)) (fun c107 => ?_)
              replace c107 := (h_lcr hz106).2.2.1 c107
              clear hz106
              refine h_iconst (pc' := 14) (x := (Int32.ofInt 1)) rfl rfl rfl ?_
              refine h_goto (pc' := 18) rfl rfl ?_
              refine h_zret rfl rfl ci_1 (by omega) (h_Kv ?_)
              refine h_zret rfl rfl ci_1 (by omega) (h_Kv ?_)
              refine h_zeq (tg := 21) (pc' := 8) rfl rfl rfl ci_1 (fun c108 => absurd c108 (by omega)) (fun c108 => ?_)
              refine h_aload_n (pc' := 9) rfl rfl rfl ?_
              refine h_iload_n (pc' := 10) rfl rfl rfl ?_
              refine h_call (sp := false) (pc' := 13) (M := [(0, .ref 98), (1, .int z99)]) rfl rfl rfl rfl rfl rfl rfl rfl ?_
              refine h_iload_n (pc' := 1) rfl rfl rfl ?_
              refine h_i2l (pc' := 2) rfl rfl hz99 (fun z109 hz109 => ?_)
              refine h_lconst (pc' := 3) (x := (Int64.ofInt 0)) rfl rfl rfl ?_
              refine h_aload_n (pc' := 4) rfl rfl rfl ?_
              refine h_getI (pc' := 7) (v := s0 98 1) rfl rfl rfl rfl rfl es93.2.2.2.2.2.2.1 (fun z110 hz110 => ?_)
              have tz110 := tf_98_1 I0
              refine h_iconst (pc' := 8) (x := (Int32.ofInt 1)) rfl rfl rfl ?_
              refine h_isub (pc' := 9) rfl rfl hz110 ci_1 rfl (by omega) (by omega) (fun z111 hz111 => ?_)
              refine h_i2l (pc' := 10) rfl rfl hz111 (fun z112 hz112 => ?_)
              refine h_calls (pc' := 13) (M := [(0, .long z109), (2, .long (Int64.ofInt 0)), (4, .long z112)]) rfl rfl rfl rfl rfl rfl ?_
              refine h_lload_n (pc' := 1) rfl rfl rfl ?_
              refine h_lload_n (pc' := 2) rfl rfl rfl ?_
              refine h_lcmp (pc' := 3) rfl rfl hz109 cl_0 (fun z113 hz113 => ?_)
              refine h_zlt (tg := 17) (pc' := 6) rfl rfl rfl rfl (fun c114 => absurd c114 (by omega)) (fun c114 => ?_)
              replace c114 := (h_lcr hz113).2.1 c114
              clear hz113
              refine h_lload_n (pc' := 7) rfl rfl rfl ?_
              refine h_lload (pc' := 9) rfl rfl rfl ?_
              refine h_lcmp (pc' := 10) rfl rfl hz109 hz112 (fun z115 hz115 => ?_)
              refine h_zgt (tg := 17) (pc' := 13) rfl rfl rfl rfl (fun c116 => absurd c116 (by omega)) (fun c116 => ?_)
              replace c116 := (h_lcr hz115).2.2.1 c116
              clear hz115
              refine h_iconst (pc' := 14) (x := (Int32.ofInt 1)) rfl rfl rfl ?_
              refine h_goto (pc' := 18) rfl rfl ?_
              refine h_zret rfl rfl ci_1 (by omega) (h_Kv ?_)
              refine h_zret rfl rfl ci_1 (by omega) (h_Kv ?_)
              refine h_zeq (tg := 21) (pc' := 16) rfl rfl rfl ci_1 (fun c117 => absurd c117 (by omega)) (fun c117 => ?_)
              refine h_iload_n (pc' := 17) rfl rfl rfl ?_
              refine h_iload_n (pc' := 18) rfl rfl rfl ?_
              refine h_cne (tg := 23) (pc' := 21) rfl rfl rfl hz97 hz99 (fun c118 => ?_) (fun c118 => absurd c118 (by omega))
              refine h_iload_n (pc' := 24) rfl rfl rfl ?_
              refine h_calls (pc' := 27) (M := [(0, .int (Int32.ofInt 0))]) rfl rfl rfl rfl rfl rfl ?_
              refine h_iload_n (pc' := 1) rfl rfl rfl ?_
              refine h_zne (tg := 9) (pc' := 4) rfl rfl rfl ci_0 (fun c119 => absurd (Int.le_antisymm (by omega) (by omega)) c119) (fun c119 => ?_)
              refine h_bipush (pc' := 6) (x := (Int32.ofInt 12)) rfl rfl cb_12 ?_
              refine h_goto (pc' := 11) rfl rfl ?_
              refine h_iret rfl rfl (h_Kv ?_)
              refine h_istore (pc' := 29) (M := [(4, .int (Int32.ofInt 12)), (0, .ref 98), (1, .int (Int32.ofInt 0)), (2, .int z97), (3, .int z99)]) rfl rfl rfl rfl ?_
              refine h_aload_n (pc' := 30) rfl rfl rfl ?_
              refine h_getR (pc' := 33) rfl rfl rfl rfl rfl ?_
              refine h_iload (pc' := 35) rfl rfl rfl ?_
              refine h_bipush (pc' := 37) (x := (Int32.ofInt 6)) rfl rfl cb_6 ?_
              refine h_iadd (pc' := 38) (c := 18) rfl rfl ci_12 ci_6 rfl (by omega) (by omega) (fun z120 hz120 => ?_)
              refine h_iald (pc' := 39) (v := s0 99 18) rfl rfl rfl hz120 (by omega) (by omega) es93.2.2.2.2.2.2.2.2.2.2.2.2.1 (fun z121 hz121 => ?_)
              have tz121 := ty_99_3 I0 18 (by omega)
              refine h_istore (pc' := 41) (M := [(5, .int z121), (4, .int (Int32.ofInt 12)), (0, .ref 98), (1, .int (Int32.ofInt 0)), (2, .int z97), (3, .int z99)]) rfl rfl rfl rfl ?_
              refine h_iload (pc' := 43) rfl rfl rfl ?_
              refine h_iconst (pc' := 44) (x := (Int32.ofInt 3)) rfl rfl rfl ?_
              refine h_cne (tg := 50) (pc' := 47) rfl rfl rfl hz121 ci_3 (fun c122 => ?_) (fun c122 => absurd c122 (by omega))
              refine h_aload_n (pc' := 51) rfl rfl rfl ?_
              refine h_getR (pc' := 54) rfl rfl rfl rfl rfl ?_
              refine h_iload (pc' := 56) rfl rfl rfl ?_
              refine h_iconst (pc' := 57) (x := (Int32.ofInt 2)) rfl rfl rfl ?_
              refine h_iload (pc' := 59) rfl rfl rfl ?_
              refine h_imul (pc' := 60) rfl rfl ci_2 hz121 rfl (by omega) (by omega) (fun z123 hz123 => ?_)
              refine h_iadd (pc' := 61) rfl rfl ci_12 hz123 rfl (by omega) (by omega) (fun z124 hz124 => ?_)
              refine h_iload_n (pc' := 62) rfl rfl rfl ?_
              refine h_iast (pc' := 63) rfl rfl rfl rfl hz124 (by omega) (by omega) hz97 (h_fgt (E := fun s => s 64 1 = s0 64 1 ∧ s 98 11 = s0 98 11 ∧ s 64 4 = s0 64 4 ∧ s 98 16 = s0 98 16 ∧ s 63 2 = s0 63 2 ∧ s 10 8 = s0 10 8 ∧ s 98 1 = s0 98 1 ∧ s 10 9 = s0 10 9 ∧ s 98 2 = s0 98 2 ∧ s 10 10 = s0 10 10 ∧ s 99 43 = s0 99 43 ∧ s 13 2 = ((s0 13 2) + 1) ∧ s 99 18 = s0 99 18 ∧ s 16 2 = s0 16 2 ∧ s 99 25 = s0 99 25 ∧ s 62 0 = s0 62 0 ∧ s 110 0 = s0 110 0 ∧ s 62 1 = s0 62 1 ∧ s 110 1 = s0 110 1 ∧ s = h_up s93 99 (12 + (2 * (s0 99 18))) (s0 0 (b3 + 1))) _ (ip_99_2 Is93 (by omega) (by omega)) (Fs93.up (k_ipg (p := 0) rfl rfl (by omega))) ⟨es93.1, es93.2.1, es93.2.2.1, es93.2.2.2.1, es93.2.2.2.2.1, es93.2.2.2.2.2.1, es93.2.2.2.2.2.2.1, es93.2.2.2.2.2.2.2.1, es93.2.2.2.2.2.2.2.2.1, es93.2.2.2.2.2.2.2.2.2.1, h_up_n2 (by omega) es93.2.2.2.2.2.2.2.2.2.2.1, es93.2.2.2.2.2.2.2.2.2.2.2.1, h_up_n2 (by omega) es93.2.2.2.2.2.2.2.2.2.2.2.2.1, es93.2.2.2.2.2.2.2.2.2.2.2.2.2.1, h_up_n2 (by omega) es93.2.2.2.2.2.2.2.2.2.2.2.2.2.2.1, es93.2.2.2.2.2.2.2.2.2.2.2.2.2.2.2.1, es93.2.2.2.2.2.2.2.2.2.2.2.2.2.2.2.2.1, es93.2.2.2.2.2.2.2.2.2.2.2.2.2.2.2.2.2.1, es93.2.2.2.2.2.2.2.2.2.2.2.2.2.2.2.2.2.2.1, rfl⟩ (fun s125 Is125 Fs125 (es125 : s125 64 1 = s0 64 1 ∧ s125 98 11 = s0 98 11 ∧ s125 64 4 = s0 64 4 ∧ s125 98 16 = s0 98 16 ∧ s125 63 2 = s0 63 2 ∧ s125 10 8 = s0 10 8 ∧ s125 98 1 = s0 98 1 ∧ s125 10 9 = s0 10 9 ∧ s125 98 2 = s0 98 2 ∧ s125 10 10 = s0 10 10 ∧ s125 99 43 = s0 99 43 ∧ s125 13 2 = ((s0 13 2) + 1) ∧ s125 99 18 = s0 99 18 ∧ s125 16 2 = s0 16 2 ∧ s125 99 25 = s0 99 25 ∧ s125 62 0 = s0 62 0 ∧ s125 110 0 = s0 110 0 ∧ s125 62 1 = s0 62 1 ∧ s125 110 1 = s0 110 1 ∧ s125 = h_up s93 99 (12 + (2 * (s0 99 18))) (s0 0 (b3 + 1))) => ?_))
              clear es93
              have us125 := es125.2.2.2.2.2.2.2.2.2.2.2.2.2.2.2.2.2.2.2
              have Zs125 : ∀ i, s125 0 i = s0 0 i := fun i => (h_upo us125 rfl i).trans (Zs93 i)
              refine h_aload_n (pc' := 64) rfl rfl rfl ?_
              refine h_getR (pc' := 67) rfl rfl rfl rfl rfl ?_
              refine h_iload (pc' := 69) rfl rfl rfl ?_
              refine h_iconst (pc' := 70) (x := (Int32.ofInt 2)) rfl rfl rfl ?_
              refine h_iload (pc' := 72) rfl rfl rfl ?_
              refine h_imul (pc' := 73) rfl rfl ci_2 hz121 rfl (by omega) (by omega) (fun z126 hz126 => ?_)
              refine h_iadd (pc' := 74) rfl rfl ci_12 hz126 rfl (by omega) (by omega) (fun z127 hz127 => ?_)
              refine h_iconst (pc' := 75) (x := (Int32.ofInt 1)) rfl rfl rfl ?_
              refine h_iadd (pc' := 76) rfl rfl hz127 ci_1 rfl (by omega) (by omega) (fun z128 hz128 => ?_)
              refine h_iload_n (pc' := 77) rfl rfl rfl ?_
              refine h_iast (pc' := 78) rfl rfl rfl rfl hz128 (by omega) (by omega) hz99 (h_fgt (E := fun s => s 64 1 = s0 64 1 ∧ s 98 11 = s0 98 11 ∧ s 64 4 = s0 64 4 ∧ s 98 16 = s0 98 16 ∧ s 63 2 = s0 63 2 ∧ s 10 8 = s0 10 8 ∧ s 98 1 = s0 98 1 ∧ s 10 9 = s0 10 9 ∧ s 98 2 = s0 98 2 ∧ s 10 10 = s0 10 10 ∧ s 99 43 = s0 99 43 ∧ s 13 2 = ((s0 13 2) + 1) ∧ s 99 18 = s0 99 18 ∧ s 16 2 = s0 16 2 ∧ s 99 25 = s0 99 25 ∧ s 62 0 = s0 62 0 ∧ s 110 0 = s0 110 0 ∧ s 62 1 = s0 62 1 ∧ s 110 1 = s0 110 1 ∧ s = h_up s125 99 ((12 + (2 * (s0 99 18))) + 1) (s0 0 (b3 + 2))) _ (ip_99_2 Is125 (by omega) (by omega)) (Fs125.up (k_ipg (p := 0) rfl rfl (by omega))) ⟨es125.1, es125.2.1, es125.2.2.1, es125.2.2.2.1, es125.2.2.2.2.1, es125.2.2.2.2.2.1, es125.2.2.2.2.2.2.1, es125.2.2.2.2.2.2.2.1, es125.2.2.2.2.2.2.2.2.1, es125.2.2.2.2.2.2.2.2.2.1, h_up_n2 (by omega) es125.2.2.2.2.2.2.2.2.2.2.1, es125.2.2.2.2.2.2.2.2.2.2.2.1, h_up_n2 (by omega) es125.2.2.2.2.2.2.2.2.2.2.2.2.1, es125.2.2.2.2.2.2.2.2.2.2.2.2.2.1, h_up_n2 (by omega) es125.2.2.2.2.2.2.2.2.2.2.2.2.2.2.1, es125.2.2.2.2.2.2.2.2.2.2.2.2.2.2.2.1, es125.2.2.2.2.2.2.2.2.2.2.2.2.2.2.2.2.1, es125.2.2.2.2.2.2.2.2.2.2.2.2.2.2.2.2.2.1, es125.2.2.2.2.2.2.2.2.2.2.2.2.2.2.2.2.2.2.1, rfl⟩ (fun s129 Is129 Fs129 (es129 : s129 64 1 = s0 64 1 ∧ s129 98 11 = s0 98 11 ∧ s129 64 4 = s0 64 4 ∧ s129 98 16 = s0 98 16 ∧ s129 63 2 = s0 63 2 ∧ s129 10 8 = s0 10 8 ∧ s129 98 1 = s0 98 1 ∧ s129 10 9 = s0 10 9 ∧ s129 98 2 = s0 98 2 ∧ s129 10 10 = s0 10 10 ∧ s129 99 43 = s0 99 43 ∧ s129 13 2 = ((s0 13 2) + 1) ∧ s129 99 18 = s0 99 18 ∧ s129 16 2 = s0 16 2 ∧ s129 99 25 = s0 99 25 ∧ s129 62 0 = s0 62 0 ∧ s129 110 0 = s0 110 0 ∧ s129 62 1 = s0 62 1 ∧ s129 110 1 = s0 110 1 ∧ s129 = h_up s125 99 ((12 + (2 * (s0 99 18))) + 1) (s0 0 (b3 + 2))) => ?_))
              clear es125
              have us129 := es129.2.2.2.2.2.2.2.2.2.2.2.2.2.2.2.2.2.2.2
              have Zs129 : ∀ i, s129 0 i = s0 0 i := fun i => (h_upo us129 rfl i).trans (Zs125 i)
              refine h_aload_n (pc' := 79) rfl rfl rfl ?_
              refine h_getR (pc' := 82) rfl rfl rfl rfl rfl ?_
              refine h_iload (pc' := 84) rfl rfl rfl ?_
              refine h_bipush (pc' := 86) (x := (Int32.ofInt 6)) rfl rfl cb_6 ?_
              refine h_iadd (pc' := 87) (c := 18) rfl rfl ci_12 ci_6 rfl (by omega) (by omega) (fun z130 hz130 => ?_)
              refine h_dup2 (pc' := 88) rfl rfl rfl ?_
              refine h_iald (pc' := 89) (v := s0 99 18) rfl rfl rfl hz130 (by omega) (by omega) es129.2.2.2.2.2.2.2.2.2.2.2.2.1 (fun z131 hz131 => ?_)
              have tz131 := ty_99_3 I0 18 (by omega)
              refine h_iconst (pc' := 90) (x := (Int32.ofInt 1)) rfl rfl rfl ?_
              refine h_iadd (pc' := 91) rfl rfl hz131 ci_1 rfl (by omega) (by omega) (fun z132 hz132 => ?_)
              refine h_iast (pc' := 92) rfl rfl rfl rfl hz130 (by omega) (by omega) hz132 (h_fgt (E := fun s => s 64 1 = s0 64 1 ∧ s 98 11 = s0 98 11 ∧ s 64 4 = s0 64 4 ∧ s 98 16 = s0 98 16 ∧ s 63 2 = s0 63 2 ∧ s 10 8 = s0 10 8 ∧ s 98 1 = s0 98 1 ∧ s 10 9 = s0 10 9 ∧ s 98 2 = s0 98 2 ∧ s 10 10 = s0 10 10 ∧ s 99 43 = s0 99 43 ∧ s 13 2 = ((s0 13 2) + 1) ∧ s 99 18 = ((s0 99 18) + 1) ∧ s 16 2 = s0 16 2 ∧ s 99 25 = s0 99 25 ∧ s 62 0 = s0 62 0 ∧ s 110 0 = s0 110 0 ∧ s 62 1 = s0 62 1 ∧ s 110 1 = s0 110 1 ∧ s = h_up s129 99 18 ((s0 99 18) + 1)) _ (ip_99_3 Is129 (by omega) (by omega)) (Fs129.up (k_ipg (p := 0) rfl rfl (by omega))) ⟨es129.1, es129.2.1, es129.2.2.1, es129.2.2.2.1, es129.2.2.2.2.1, es129.2.2.2.2.2.1, es129.2.2.2.2.2.2.1, es129.2.2.2.2.2.2.2.1, es129.2.2.2.2.2.2.2.2.1, es129.2.2.2.2.2.2.2.2.2.1, es129.2.2.2.2.2.2.2.2.2.2.1, es129.2.2.2.2.2.2.2.2.2.2.2.1, rfl, es129.2.2.2.2.2.2.2.2.2.2.2.2.2.1, es129.2.2.2.2.2.2.2.2.2.2.2.2.2.2.1, es129.2.2.2.2.2.2.2.2.2.2.2.2.2.2.2.1, es129.2.2.2.2.2.2.2.2.2.2.2.2.2.2.2.2.1, es129.2.2.2.2.2.2.2.2.2.2.2.2.2.2.2.2.2.1, es129.2.2.2.2.2.2.2.2.2.2.2.2.2.2.2.2.2.2.1, rfl⟩ (fun s133 Is133 Fs133 (es133 : s133 64 1 = s0 64 1 ∧ s133 98 11 = s0 98 11 ∧ s133 64 4 = s0 64 4 ∧ s133 98 16 = s0 98 16 ∧ s133 63 2 = s0 63 2 ∧ s133 10 8 = s0 10 8 ∧ s133 98 1 = s0 98 1 ∧ s133 10 9 = s0 10 9 ∧ s133 98 2 = s0 98 2 ∧ s133 10 10 = s0 10 10 ∧ s133 99 43 = s0 99 43 ∧ s133 13 2 = ((s0 13 2) + 1) ∧ s133 99 18 = ((s0 99 18) + 1) ∧ s133 16 2 = s0 16 2 ∧ s133 99 25 = s0 99 25 ∧ s133 62 0 = s0 62 0 ∧ s133 110 0 = s0 110 0 ∧ s133 62 1 = s0 62 1 ∧ s133 110 1 = s0 110 1 ∧ s133 = h_up s129 99 18 ((s0 99 18) + 1)) => ?_))
              clear es129
              have us133 := es133.2.2.2.2.2.2.2.2.2.2.2.2.2.2.2.2.2.2.2
              have Zs133 : ∀ i, s133 0 i = s0 0 i := fun i => (h_upo us133 rfl i).trans (Zs129 i)
              refine h_iload (pc' := 94) rfl rfl rfl ?_
              refine h_iconst (pc' := 95) (x := (Int32.ofInt 1)) rfl rfl rfl ?_
              refine h_iadd (pc' := 96) rfl rfl hz121 ci_1 rfl (by omega) (by omega) (fun z134 hz134 => ?_)
              refine h_iret rfl rfl (h_Kv ?_)
              refine h_iret rfl rfl (h_Kv ?_)
              refine h_pop (pc' := 568) rfl rfl rfl ?_
              refine h_goto (pc' := 1441) rfl rfl ?_
              exact kk _ Is133 (by first | exact d_tape.le j0 (Int.le_antisymm (by omega) (by omega)) (by omega) (fun j => (h_upo us133 rfl j).trans ((h_upo us129 rfl j).trans ((h_upo us125 rfl j).trans ((h_upo us93 rfl j).trans ((h_upo us90 rfl j).trans ((h_upo us88 rfl j))))))) (fun j => (h_upo us133 rfl j).trans ((h_upo us129 rfl j).trans ((h_upo us125 rfl j).trans ((h_upo us93 rfl j).trans ((h_upo us90 rfl j).trans ((h_upo us88 rfl j))))))) | (exfalso; omega)) (Int.le_antisymm (by omega) (by omega)) (c_R.mar j2 I0 (by omega) (by omega) (by omega) (by omega) (by omega) (Int.le_antisymm (by omega) (by omega)) (Int.le_antisymm (by omega) (by omega)) (Int.le_antisymm (by omega) (by omega)) (Int.le_antisymm (by omega) (by omega)) (Int.le_antisymm (by omega) (by omega)) (Int.le_antisymm (by omega) (by omega)) (fun j => (h_upo us133 rfl j).trans ((h_upo us129 rfl j).trans ((h_upo us125 rfl j).trans ((h_upo us93 rfl j).trans ((h_upo us90 rfl j).trans ((h_upi us88 j))))))) (fun j => (h_upo us133 rfl j).trans ((h_upo us129 rfl j).trans ((h_upo us125 rfl j).trans ((h_upo us93 rfl j).trans ((h_upi us90 j).trans (congrArg (fun z => if j = (s0 13 2) then (s0 0 (b3 + 2)) else z) ((h_upo us88 rfl j)))))))) (Int.le_antisymm (by omega) (by omega)) (fun j => (h_upi us133 j).trans (congrArg (fun z => if j = 18 then ((s0 99 18) + 1) else z) ((h_upi us129 j).trans (congrArg (fun z => if j = ((12 + (2 * (s0 99 18))) + 1) then (s0 0 (b3 + 2)) else z) ((h_upi us125 j).trans (congrArg (fun z => if j = (12 + (2 * (s0 99 18))) then (s0 0 (b3 + 1)) else z) ((h_upo us93 rfl j).trans ((h_upo us90 rfl j).trans ((h_upo us88 rfl j))))))))))  (fun p j n0 n1 n2 n3 => (h_upq us133 n3 j).trans ((h_upq us129 n3 j).trans ((h_upq us125 n3 j).trans ((h_upq us93 n0 j).trans ((h_upq us90 n2 j).trans ((h_upq us88 n1 j))))))))
            · refine h_iconst (pc' := 9) (x := (Int32.ofInt 1)) rfl rfl rfl ?_
              refine h_goto (pc' := 13) rfl rfl ?_
              refine h_zret rfl rfl ci_1 (by omega) (h_Kv ?_)
              refine h_zeq (tg := 9) (pc' := 7) rfl rfl rfl ci_1 (fun c135 => absurd c135 (by omega)) (fun c135 => ?_)
              refine h_iconst (pc' := 8) (x := (Int32.ofInt 0)) rfl rfl rfl ?_
              refine h_zret rfl rfl ci_0 (by omega) (h_Kv ?_)
              refine h_zeq (tg := 45) (pc' := 38) rfl rfl rfl ci_0 (fun c136 => ?_) (fun c136 => absurd (Int.le_antisymm (by omega) (by omega)) c136)
              refine h_bipush (pc' := 47) (x := (Int32.ofInt (-3))) rfl rfl cb_m3 ?_
              refine h_iret rfl rfl (h_Kv ?_)
              refine h_iret rfl rfl (h_Kv ?_)
              refine h_pop (pc' := 553) rfl rfl rfl ?_
              refine h_aload_n (pc' := 554) rfl rfl rfl ?_
              refine h_aload_n (pc' := 555) rfl rfl rfl ?_
              refine h_iload_n (pc' := 556) rfl rfl rfl ?_
              refine h_iconst (pc' := 557) (x := (Int32.ofInt 1)) rfl rfl rfl ?_
              refine h_iadd (pc' := 558) rfl rfl hy3 ci_1 rfl (by omega) (by omega) (fun z137 hz137 => ?_)
              refine h_iald (pc' := 559) (v := s0 0 (b3 + 1)) rfl rfl rfl hz137 (by omega) (by omega) rfl (fun z138 hz138 => ?_)
              have tz138 := h_rgv hz138
              refine h_aload_n (pc' := 560) rfl rfl rfl ?_
              refine h_iload_n (pc' := 561) rfl rfl rfl ?_
              refine h_iconst (pc' := 562) (x := (Int32.ofInt 2)) rfl rfl rfl ?_
              refine h_iadd (pc' := 563) rfl rfl hy3 ci_2 rfl (by omega) (by omega) (fun z139 hz139 => ?_)
              refine h_iald (pc' := 564) (v := s0 0 (b3 + 2)) rfl rfl rfl hz139 (by omega) (by omega) rfl (fun z140 hz140 => ?_)
              have tz140 := h_rgv hz140
              refine h_call (sp := false) (pc' := 567) (M := [(0, .ref 98), (1, .int z138), (2, .int z140)]) rfl rfl rfl rfl rfl rfl rfl rfl ?_
              refine h_aload_n (pc' := 1) rfl rfl rfl ?_
              refine h_iconst (pc' := 2) (x := (Int32.ofInt 0)) rfl rfl rfl ?_
              refine h_iload_n (pc' := 3) rfl rfl rfl ?_
              refine h_iload_n (pc' := 4) rfl rfl rfl ?_
              refine h_call (sp := false) (pc' := 7) (M := [(0, .ref 98), (1, .int (Int32.ofInt 0)), (2, .int z138), (3, .int z140)]) rfl rfl rfl rfl rfl rfl rfl rfl ?_
              refine h_aload_n (pc' := 1) rfl rfl rfl ?_
              refine h_iload_n (pc' := 2) rfl rfl rfl ?_
              refine h_call (sp := false) (pc' := 5) (M := [(0, .ref 98), (1, .int z138)]) rfl rfl rfl rfl rfl rfl rfl rfl ?_
              refine h_iload_n (pc' := 1) rfl rfl rfl ?_
              refine h_i2l (pc' := 2) rfl rfl hz138 (fun z141 hz141 => ?_)
              refine h_lconst (pc' := 3) (x := (Int64.ofInt 0)) rfl rfl rfl ?_
              refine h_aload_n (pc' := 4) rfl rfl rfl ?_
              refine h_getI (pc' := 7) (v := s0 98 1) rfl rfl rfl rfl rfl rfl (fun z142 hz142 => ?_)
              have tz142 := tf_98_1 I0
              refine h_iconst (pc' := 8) (x := (Int32.ofInt 1)) rfl rfl rfl ?_
              refine h_isub (pc' := 9) rfl rfl hz142 ci_1 rfl (by omega) (by omega) (fun z143 hz143 => ?_)
              refine h_i2l (pc' := 10) rfl rfl hz143 (fun z144 hz144 => ?_)
              refine h_calls (pc' := 13) (M := [(0, .long z141), (2, .long (Int64.ofInt 0)), (4, .long z144)]) rfl rfl rfl rfl rfl rfl ?_
              refine h_lload_n (pc' := 1) rfl rfl rfl ?_
              refine h_lload_n (pc' := 2) rfl rfl rfl ?_
              refine h_lcmp (pc' := 3) rfl rfl hz141 cl_0 (fun z145 hz145 => ?_)
              refine h_zlt (tg := 17) (pc' := 6) rfl rfl rfl rfl (fun c146 => absurd c146 (by omega)) (fun c146 => ?_)
              replace c146 := (h_lcr hz145).2.1 c146
              clear hz145
              refine h_lload_n (pc' := 7) rfl rfl rfl ?_
              refine h_lload (pc' := 9) rfl rfl rfl ?_
              refine h_lcmp (pc' := 10) rfl rfl hz141 hz144 (fun z147 hz147 => ?_)
              refine h_zgt (tg := 17) (pc' := 13) rfl rfl rfl rfl (fun c148 => absurd c148 (by omega)) (fun c148 => ?_)
              replace c148 := (h_lcr hz147).2.2.1 c148
              clear hz147
              refine h_iconst (pc' := 14) (x := (Int32.ofInt 1)) rfl rfl rfl ?_
              refine h_goto (pc' := 18) rfl rfl ?_
              refine h_zret rfl rfl ci_1 (by omega) (h_Kv ?_)
              refine h_zret rfl rfl ci_1 (by omega) (h_Kv ?_)
              refine h_zeq (tg := 21) (pc' := 8) rfl rfl rfl ci_1 (fun c149 => absurd c149 (by omega)) (fun c149 => ?_)
              refine h_aload_n (pc' := 9) rfl rfl rfl ?_
              refine h_iload_n (pc' := 10) rfl rfl rfl ?_
              refine h_call (sp := false) (pc' := 13) (M := [(0, .ref 98), (1, .int z140)]) rfl rfl rfl rfl rfl rfl rfl rfl ?_
              refine h_iload_n (pc' := 1) rfl rfl rfl ?_
              refine h_i2l (pc' := 2) rfl rfl hz140 (fun z150 hz150 => ?_)
              refine h_lconst (pc' := 3) (x := (Int64.ofInt 0)) rfl rfl rfl ?_
              refine h_aload_n (pc' := 4) rfl rfl rfl ?_
              refine h_getI (pc' := 7) (v := s0 98 1) rfl rfl rfl rfl rfl rfl (fun z151 hz151 => ?_)
              have tz151 := tf_98_1 I0
              refine h_iconst (pc' := 8) (x := (Int32.ofInt 1)) rfl rfl rfl ?_
              refine h_isub (pc' := 9) rfl rfl hz151 ci_1 rfl (by omega) (by omega) (fun z152 hz152 => ?_)
              refine h_i2l (pc' := 10) rfl rfl hz152 (fun z153 hz153 => ?_)
              refine h_calls (pc' := 13) (M := [(0, .long z150), (2, .long (Int64.ofInt 0)), (4, .long z153)]) rfl rfl rfl rfl rfl rfl ?_
              refine h_lload_n (pc' := 1) rfl rfl rfl ?_
              refine h_lload_n (pc' := 2) rfl rfl rfl ?_
              refine h_lcmp (pc' := 3) rfl rfl hz150 cl_0 (fun z154 hz154 => ?_)
              refine h_zlt (tg := 17) (pc' := 6) rfl rfl rfl rfl (fun c155 => absurd c155 (by omega)) (fun c155 => ?_)
              replace c155 := (h_lcr hz154).2.1 c155
              clear hz154
              refine h_lload_n (pc' := 7) rfl rfl rfl ?_
              refine h_lload (pc' := 9) rfl rfl rfl ?_
              refine h_lcmp (pc' := 10) rfl rfl hz150 hz153 (fun z156 hz156 => ?_)
              refine h_zgt (tg := 17) (pc' := 13) rfl rfl rfl rfl (fun c157 => absurd c157 (by omega)) (fun c157 => ?_)
              replace c157 := (h_lcr hz156).2.2.1 c157
              clear hz156
              refine h_iconst (pc' := 14) (x := (Int32.ofInt 1)) rfl rfl rfl ?_
              refine h_goto (pc' := 18) rfl rfl ?_
              refine h_zret rfl rfl ci_1 (by omega) (h_Kv ?_)
              refine h_zret rfl rfl ci_1 (by omega) (h_Kv ?_)
              refine h_zeq (tg := 21) (pc' := 16) rfl rfl rfl ci_1 (fun c158 => absurd c158 (by omega)) (fun c158 => ?_)
              refine h_iload_n (pc' := 17) rfl rfl rfl ?_
              refine h_iload_n (pc' := 18) rfl rfl rfl ?_
              refine h_cne (tg := 23) (pc' := 21) rfl rfl rfl hz138 hz140 (fun c159 => ?_) (fun c159 => absurd c159 (by omega))
              refine h_iload_n (pc' := 24) rfl rfl rfl ?_
              refine h_calls (pc' := 27) (M := [(0, .int (Int32.ofInt 0))]) rfl rfl rfl rfl rfl rfl ?_
              refine h_iload_n (pc' := 1) rfl rfl rfl ?_
              refine h_zne (tg := 9) (pc' := 4) rfl rfl rfl ci_0 (fun c160 => absurd (Int.le_antisymm (by omega) (by omega)) c160) (fun c160 => ?_)
              refine h_bipush (pc' := 6) (x := (Int32.ofInt 12)) rfl rfl cb_12 ?_
              refine h_goto (pc' := 11) rfl rfl ?_
              refine h_iret rfl rfl (h_Kv ?_)
              refine h_istore (pc' := 29) (M := [(4, .int (Int32.ofInt 12)), (0, .ref 98), (1, .int (Int32.ofInt 0)), (2, .int z138), (3, .int z140)]) rfl rfl rfl rfl ?_
              refine h_aload_n (pc' := 30) rfl rfl rfl ?_
              refine h_getR (pc' := 33) rfl rfl rfl rfl rfl ?_
              refine h_iload (pc' := 35) rfl rfl rfl ?_
              refine h_bipush (pc' := 37) (x := (Int32.ofInt 6)) rfl rfl cb_6 ?_
              refine h_iadd (pc' := 38) (c := 18) rfl rfl ci_12 ci_6 rfl (by omega) (by omega) (fun z161 hz161 => ?_)
              refine h_iald (pc' := 39) (v := s0 99 18) rfl rfl rfl hz161 (by omega) (by omega) rfl (fun z162 hz162 => ?_)
              have tz162 := ty_99_3 I0 18 (by omega)
              refine h_istore (pc' := 41) (M := [(5, .int z162), (4, .int (Int32.ofInt 12)), (0, .ref 98), (1, .int (Int32.ofInt 0)), (2, .int z138), (3, .int z140)]) rfl rfl rfl rfl ?_
              refine h_iload (pc' := 43) rfl rfl rfl ?_
              refine h_iconst (pc' := 44) (x := (Int32.ofInt 3)) rfl rfl rfl ?_
              refine h_cne (tg := 50) (pc' := 47) rfl rfl rfl hz162 ci_3 (fun c163 => absurd (Int.le_antisymm (by omega) (by omega)) c163) (fun c163 => ?_)
              refine h_bipush (pc' := 49) (x := (Int32.ofInt (-3))) rfl rfl cb_m3 ?_
              refine h_iret rfl rfl (h_Kv ?_)
              refine h_iret rfl rfl (h_Kv ?_)
              refine h_pop (pc' := 568) rfl rfl rfl ?_
              refine h_goto (pc' := 1441) rfl rfl ?_
              exact kk _ I0 (by first | exact d_tape.le j0 (Int.le_antisymm (by omega) (by omega)) (by omega) (fun j => rfl) (fun j => rfl) | (exfalso; omega)) (Int.le_antisymm (by omega) (by omega)) j2
          · refine h_iconst (pc' := 28) (x := (Int32.ofInt (-1))) rfl rfl rfl ?_
            refine h_iret rfl rfl (h_Kv ?_)
            refine h_iret rfl rfl (h_Kv ?_)
            refine h_pop (pc' := 553) rfl rfl rfl ?_
            refine h_aload_n (pc' := 554) rfl rfl rfl ?_
            refine h_aload_n (pc' := 555) rfl rfl rfl ?_
            refine h_iload_n (pc' := 556) rfl rfl rfl ?_
            refine h_iconst (pc' := 557) (x := (Int32.ofInt 1)) rfl rfl rfl ?_
            refine h_iadd (pc' := 558) rfl rfl hy3 ci_1 rfl (by omega) (by omega) (fun z164 hz164 => ?_)
            refine h_iald (pc' := 559) (v := s0 0 (b3 + 1)) rfl rfl rfl hz164 (by omega) (by omega) rfl (fun z165 hz165 => ?_)
            have tz165 := h_rgv hz165
            refine h_aload_n (pc' := 560) rfl rfl rfl ?_
            refine h_iload_n (pc' := 561) rfl rfl rfl ?_
            refine h_iconst (pc' := 562) (x := (Int32.ofInt 2)) rfl rfl rfl ?_
            refine h_iadd (pc' := 563) rfl rfl hy3 ci_2 rfl (by omega) (by omega) (fun z166 hz166 => ?_)
            refine h_iald (pc' := 564) (v := s0 0 (b3 + 2)) rfl rfl rfl hz166 (by omega) (by omega) rfl (fun z167 hz167 => ?_)
            have tz167 := h_rgv hz167
            refine h_call (sp := false) (pc' := 567) (M := [(0, .ref 98), (1, .int z165), (2, .int z167)]) rfl rfl rfl rfl rfl rfl rfl rfl ?_
            refine h_aload_n (pc' := 1) rfl rfl rfl ?_
            refine h_iconst (pc' := 2) (x := (Int32.ofInt 0)) rfl rfl rfl ?_
            refine h_iload_n (pc' := 3) rfl rfl rfl ?_
            refine h_iload_n (pc' := 4) rfl rfl rfl ?_
            refine h_call (sp := false) (pc' := 7) (M := [(0, .ref 98), (1, .int (Int32.ofInt 0)), (2, .int z165), (3, .int z167)]) rfl rfl rfl rfl rfl rfl rfl rfl ?_
            refine h_aload_n (pc' := 1) rfl rfl rfl ?_
            refine h_iload_n (pc' := 2) rfl rfl rfl ?_
            refine h_call (sp := false) (pc' := 5) (M := [(0, .ref 98), (1, .int z165)]) rfl rfl rfl rfl rfl rfl rfl rfl ?_
            refine h_iload_n (pc' := 1) rfl rfl rfl ?_
            refine h_i2l (pc' := 2) rfl rfl hz165 (fun z168 hz168 => ?_)
            refine h_lconst (pc' := 3) (x := (Int64.ofInt 0)) rfl rfl rfl ?_
            refine h_aload_n (pc' := 4) rfl rfl rfl ?_
            refine h_getI (pc' := 7) (v := s0 98 1) rfl rfl rfl rfl rfl rfl (fun z169 hz169 => ?_)
            have tz169 := tf_98_1 I0
            refine h_iconst (pc' := 8) (x := (Int32.ofInt 1)) rfl rfl rfl ?_
            refine h_isub (pc' := 9) rfl rfl hz169 ci_1 rfl (by omega) (by omega) (fun z170 hz170 => ?_)
            refine h_i2l (pc' := 10) rfl rfl hz170 (fun z171 hz171 => ?_)
            refine h_calls (pc' := 13) (M := [(0, .long z168), (2, .long (Int64.ofInt 0)), (4, .long z171)]) rfl rfl rfl rfl rfl rfl ?_
            refine h_lload_n (pc' := 1) rfl rfl rfl ?_
            refine h_lload_n (pc' := 2) rfl rfl rfl ?_
            refine h_lcmp (pc' := 3) rfl rfl hz168 cl_0 (fun z172 hz172 => ?_)
            refine h_zlt (tg := 17) (pc' := 6) rfl rfl rfl rfl (fun c173 => absurd c173 (by omega)) (fun c173 => ?_)
            replace c173 := (h_lcr hz172).2.1 c173
            clear hz172
            refine h_lload_n (pc' := 7) rfl rfl rfl ?_
            refine h_lload (pc' := 9) rfl rfl rfl ?_
            refine h_lcmp (pc' := 10) rfl rfl hz168 hz171 (fun z174 hz174 => ?_)
            refine h_zgt (tg := 17) (pc' := 13) rfl rfl rfl rfl (fun c175 => absurd c175 (by omega)) (fun c175 => ?_)
            replace c175 := (h_lcr hz174).2.2.1 c175
            clear hz174
            refine h_iconst (pc' := 14) (x := (Int32.ofInt 1)) rfl rfl rfl ?_
            refine h_goto (pc' := 18) rfl rfl ?_
            refine h_zret rfl rfl ci_1 (by omega) (h_Kv ?_)
            refine h_zret rfl rfl ci_1 (by omega) (h_Kv ?_)
            refine h_zeq (tg := 21) (pc' := 8) rfl rfl rfl ci_1 (fun c176 => absurd c176 (by omega)) (fun c176 => ?_)
            refine h_aload_n (pc' := 9) rfl rfl rfl ?_
            refine h_iload_n (pc' := 10) rfl rfl rfl ?_
            refine h_call (sp := false) (pc' := 13) (M := [(0, .ref 98), (1, .int z167)]) rfl rfl rfl rfl rfl rfl rfl rfl ?_
            refine h_iload_n (pc' := 1) rfl rfl rfl ?_
            refine h_i2l (pc' := 2) rfl rfl hz167 (fun z177 hz177 => ?_)
            refine h_lconst (pc' := 3) (x := (Int64.ofInt 0)) rfl rfl rfl ?_
            refine h_aload_n (pc' := 4) rfl rfl rfl ?_
            refine h_getI (pc' := 7) (v := s0 98 1) rfl rfl rfl rfl rfl rfl (fun z178 hz178 => ?_)
            have tz178 := tf_98_1 I0
            refine h_iconst (pc' := 8) (x := (Int32.ofInt 1)) rfl rfl rfl ?_
            refine h_isub (pc' := 9) rfl rfl hz178 ci_1 rfl (by omega) (by omega) (fun z179 hz179 => ?_)
            refine h_i2l (pc' := 10) rfl rfl hz179 (fun z180 hz180 => ?_)
            refine h_calls (pc' := 13) (M := [(0, .long z177), (2, .long (Int64.ofInt 0)), (4, .long z180)]) rfl rfl rfl rfl rfl rfl ?_
            refine h_lload_n (pc' := 1) rfl rfl rfl ?_
            refine h_lload_n (pc' := 2) rfl rfl rfl ?_
            refine h_lcmp (pc' := 3) rfl rfl hz177 cl_0 (fun z181 hz181 => ?_)
            refine h_zlt (tg := 17) (pc' := 6) rfl rfl rfl rfl (fun c182 => absurd c182 (by omega)) (fun c182 => ?_)
            replace c182 := (h_lcr hz181).2.1 c182
            clear hz181
            refine h_lload_n (pc' := 7) rfl rfl rfl ?_
            refine h_lload (pc' := 9) rfl rfl rfl ?_
            refine h_lcmp (pc' := 10) rfl rfl hz177 hz180 (fun z183 hz183 => ?_)
            refine h_zgt (tg := 17) (pc' := 13) rfl rfl rfl rfl (fun c184 => absurd c184 (by omega)) (fun c184 => ?_)
            replace c184 := (h_lcr hz183).2.2.1 c184
            clear hz183
            refine h_iconst (pc' := 14) (x := (Int32.ofInt 1)) rfl rfl rfl ?_
            refine h_goto (pc' := 18) rfl rfl ?_
            refine h_zret rfl rfl ci_1 (by omega) (h_Kv ?_)
            refine h_zret rfl rfl ci_1 (by omega) (h_Kv ?_)
            refine h_zeq (tg := 21) (pc' := 16) rfl rfl rfl ci_1 (fun c185 => absurd c185 (by omega)) (fun c185 => ?_)
            refine h_iload_n (pc' := 17) rfl rfl rfl ?_
            refine h_iload_n (pc' := 18) rfl rfl rfl ?_
            refine h_cne (tg := 23) (pc' := 21) rfl rfl rfl hz165 hz167 (fun c186 => absurd (Int.le_antisymm (by omega) (by omega)) c186) (fun c186 => ?_)
            refine h_iconst (pc' := 22) (x := (Int32.ofInt (-1))) rfl rfl rfl ?_
            refine h_iret rfl rfl (h_Kv ?_)
            refine h_iret rfl rfl (h_Kv ?_)
            refine h_pop (pc' := 568) rfl rfl rfl ?_
            refine h_goto (pc' := 1441) rfl rfl ?_
            exact kk _ I0 (by first | exact d_tape.le j0 (Int.le_antisymm (by omega) (by omega)) (by omega) (fun j => rfl) (fun j => rfl) | (exfalso; omega)) (Int.le_antisymm (by omega) (by omega)) j2
set_option maxHeartbeats 100000000 in
theorem g_case_571 {ns : Nat} (hns : ns ≤ 320) (s0 : h_S) (I0 : h_I s0) (j0 : d_tape s0 s0) (j1 : s0 64 4 = s0 98 16) (j2 : c_R false s0) (y3 : Int32) (b3 : Int) (hy3 : y3.toInt = b3) (hr : 0 ≤ b3 ∧ b3 + 5 ≤ ns) {Q : Option Value → h_S → Prop} (kk : ∀ τ, h_I τ → (d_tape τ τ) → (τ 64 4 = τ 98 16) → (c_R false τ) → h_T g_P (g_Y ns) 225 1441 [(0, .ref 0), (1, .ref 9), (2, .ref 98), (3, .int y3)] [] τ Q) : h_T g_P (g_Y ns) 225 571 [(0, .ref 0), (1, .ref 9), (2, .ref 98), (3, .int y3)] [] s0 Q := by
  have F0_ : h_F (fun _ _ => true) s0 s0 := h_F.rf
  have j0_ := j0.2
  have i0 := tf_64_1 I0
  have i1 := tf_98_11 I0
  have i2 := tf_64_4 I0
  have i3 := tf_98_16 I0
  have i4 := tf_63_2 I0
  have i5 := tf_10_8 I0
  have i6 := tf_98_1 I0
  have i7 := tf_10_9 I0
  have i8 := tf_98_2 I0
  have i9 := tf_10_10 I0
  have i11 := tf_13_2 I0
  have i13 := tf_16_2 I0
  have j2_ := j2.sz
  have j2i := j2.2.2.1
  have y43 := ty_99_10 I0 43 (by omega)
  have y18 := ty_99_3 I0 18 (by omega)
  have y25 := ty_99_5 I0 25 (by omega)
  have y62_0 := ty_62 I0 0
  have y62_1 := ty_62 I0 1
  have y110_0 := ty_110 I0 0
  have y110_1 := ty_110 I0 1
  refine h_aload_n (pc' := 572) rfl rfl rfl ?_
  refine h_aload_n (pc' := 573) rfl rfl rfl ?_
  refine h_iload_n (pc' := 574) rfl rfl rfl ?_
  refine h_iconst (pc' := 575) (x := (Int32.ofInt 1)) rfl rfl rfl ?_
  refine h_iadd (pc' := 576) rfl rfl hy3 ci_1 rfl (by omega) (by omega) (fun z1 hz1 => ?_)
  refine h_iald (pc' := 577) (v := s0 0 (b3 + 1)) rfl rfl rfl hz1 (by omega) (by omega) rfl (fun z2 hz2 => ?_)
  have tz2 := h_rgv hz2
  refine h_aload_n (pc' := 578) rfl rfl rfl ?_
  refine h_iload_n (pc' := 579) rfl rfl rfl ?_
  refine h_iconst (pc' := 580) (x := (Int32.ofInt 2)) rfl rfl rfl ?_
  refine h_iadd (pc' := 581) rfl rfl hy3 ci_2 rfl (by omega) (by omega) (fun z3 hz3 => ?_)
  refine h_iald (pc' := 582) (v := s0 0 (b3 + 2)) rfl rfl rfl hz3 (by omega) (by omega) rfl (fun z4 hz4 => ?_)
  have tz4 := h_rgv hz4
  refine h_call (sp := false) (pc' := 585) (M := [(0, .ref 9), (1, .int z2), (2, .int z4)]) rfl rfl rfl rfl rfl rfl rfl rfl ?_
  refine h_aload_n (pc' := 1) rfl rfl rfl ?_
  refine h_aload_n (pc' := 2) rfl rfl rfl ?_
  refine h_getR (pc' := 5) rfl rfl rfl rfl rfl ?_
  refine h_getR (pc' := 8) rfl rfl rfl rfl rfl ?_
  refine h_iload_n (pc' := 9) rfl rfl rfl ?_
  refine h_iload_n (pc' := 10) rfl rfl rfl ?_
  refine h_call (sp := false) (pc' := 13) (M := [(0, .ref 9), (1, .ref 16), (2, .int z2), (3, .int z4)]) rfl rfl rfl rfl rfl rfl rfl rfl ?_
  refine h_aload_n (pc' := 1) rfl rfl rfl ?_
  refine h_getR (pc' := 4) rfl rfl rfl rfl rfl ?_
  refine h_iload_n (pc' := 5) rfl rfl rfl ?_
  refine h_call (sp := false) (pc' := 8) (M := [(0, .ref 10), (1, .int z2)]) rfl rfl rfl rfl rfl rfl rfl rfl ?_
  refine h_iload_n (pc' := 1) rfl rfl rfl ?_
  refine h_zlt (tg := 16) (pc' := 4) rfl rfl rfl hz2 (fun c5 => ?_) (fun c5 => ?_)
  · refine h_iconst (pc' := 17) (x := (Int32.ofInt 0)) rfl rfl rfl ?_
    refine h_zret rfl rfl ci_0 (by omega) (h_Kv ?_)
    refine h_zeq (tg := 27) (pc' := 11) rfl rfl rfl ci_0 (fun c6 => ?_) (fun c6 => absurd (Int.le_antisymm (by omega) (by omega)) c6)
    refine h_iconst (pc' := 28) (x := (Int32.ofInt (-1))) rfl rfl rfl ?_
    refine h_iret rfl rfl (h_Kv ?_)
    refine h_iret rfl rfl (h_Kv ?_)
    refine h_pop (pc' := 586) rfl rfl rfl ?_
    refine h_aload_n (pc' := 587) rfl rfl rfl ?_
    refine h_aload_n (pc' := 588) rfl rfl rfl ?_
    refine h_iload_n (pc' := 589) rfl rfl rfl ?_
    refine h_iconst (pc' := 590) (x := (Int32.ofInt 1)) rfl rfl rfl ?_
    refine h_iadd (pc' := 591) rfl rfl hy3 ci_1 rfl (by omega) (by omega) (fun z7 hz7 => ?_)
    refine h_iald (pc' := 592) (v := s0 0 (b3 + 1)) rfl rfl rfl hz7 (by omega) (by omega) rfl (fun z8 hz8 => ?_)
    have tz8 := h_rgv hz8
    refine h_aload_n (pc' := 593) rfl rfl rfl ?_
    refine h_iload_n (pc' := 594) rfl rfl rfl ?_
    refine h_iconst (pc' := 595) (x := (Int32.ofInt 2)) rfl rfl rfl ?_
    refine h_iadd (pc' := 596) rfl rfl hy3 ci_2 rfl (by omega) (by omega) (fun z9 hz9 => ?_)
    refine h_iald (pc' := 597) (v := s0 0 (b3 + 2)) rfl rfl rfl hz9 (by omega) (by omega) rfl (fun z10 hz10 => ?_)
    have tz10 := h_rgv hz10
    refine h_call (sp := false) (pc' := 600) (M := [(0, .ref 98), (1, .int z8), (2, .int z10)]) rfl rfl rfl rfl rfl rfl rfl rfl ?_
    refine h_aload_n (pc' := 1) rfl rfl rfl ?_
    refine h_iconst (pc' := 2) (x := (Int32.ofInt 1)) rfl rfl rfl ?_
    refine h_iload_n (pc' := 3) rfl rfl rfl ?_
    refine h_iload_n (pc' := 4) rfl rfl rfl ?_
    refine h_call (sp := false) (pc' := 7) (M := [(0, .ref 98), (1, .int (Int32.ofInt 1)), (2, .int z8), (3, .int z10)]) rfl rfl rfl rfl rfl rfl rfl rfl ?_
    refine h_aload_n (pc' := 1) rfl rfl rfl ?_
    refine h_iload_n (pc' := 2) rfl rfl rfl ?_
    refine h_call (sp := false) (pc' := 5) (M := [(0, .ref 98), (1, .int z8)]) rfl rfl rfl rfl rfl rfl rfl rfl ?_
    refine h_iload_n (pc' := 1) rfl rfl rfl ?_
    refine h_i2l (pc' := 2) rfl rfl hz8 (fun z11 hz11 => ?_)
    refine h_lconst (pc' := 3) (x := (Int64.ofInt 0)) rfl rfl rfl ?_
    refine h_aload_n (pc' := 4) rfl rfl rfl ?_
    refine h_getI (pc' := 7) (v := s0 98 1) rfl rfl rfl rfl rfl rfl (fun z12 hz12 => ?_)
    have tz12 := tf_98_1 I0
    refine h_iconst (pc' := 8) (x := (Int32.ofInt 1)) rfl rfl rfl ?_
    refine h_isub (pc' := 9) rfl rfl hz12 ci_1 rfl (by omega) (by omega) (fun z13 hz13 => ?_)
    refine h_i2l (pc' := 10) rfl rfl hz13 (fun z14 hz14 => ?_)
    refine h_calls (pc' := 13) (M := [(0, .long z11), (2, .long (Int64.ofInt 0)), (4, .long z14)]) rfl rfl rfl rfl rfl rfl ?_
    refine h_lload_n (pc' := 1) rfl rfl rfl ?_
    refine h_lload_n (pc' := 2) rfl rfl rfl ?_
    refine h_lcmp (pc' := 3) rfl rfl hz11 cl_0 (fun z15 hz15 => ?_)
    refine h_zlt (tg := 17) (pc' := 6) rfl rfl rfl rfl (fun c16 => ?_) (fun c16 => absurd c16 (by omega))
    replace c16 := (h_lcr hz15).1 c16
    clear hz15
    refine h_iconst (pc' := 18) (x := (Int32.ofInt 0)) rfl rfl rfl ?_
    refine h_zret rfl rfl ci_0 (by omega) (h_Kv ?_)
    refine h_zret rfl rfl ci_0 (by omega) (h_Kv ?_)
    refine h_zeq (tg := 21) (pc' := 8) rfl rfl rfl ci_0 (fun c17 => ?_) (fun c17 => absurd (Int.le_antisymm (by omega) (by omega)) c17)
    refine h_iconst (pc' := 22) (x := (Int32.ofInt (-1))) rfl rfl rfl ?_
    refine h_iret rfl rfl (h_Kv ?_)
    refine h_iret rfl rfl (h_Kv ?_)
    refine h_pop (pc' := 601) rfl rfl rfl ?_
    refine h_goto (pc' := 1441) rfl rfl ?_
    exact kk _ I0 (by first | exact d_tape.le j0 (Int.le_antisymm (by omega) (by omega)) (by omega) (fun j => rfl) (fun j => rfl) | (exfalso; omega)) (Int.le_antisymm (by omega) (by omega)) j2
  · refine h_iload_n (pc' := 5) rfl rfl rfl ?_
    refine h_aload_n (pc' := 6) rfl rfl rfl ?_
    refine h_getI (pc' := 9) (v := s0 10 8) rfl rfl rfl rfl rfl rfl (fun z18 hz18 => ?_)
    have tz18 := tf_10_8 I0
    refine h_cge (tg := 16) (pc' := 12) rfl rfl rfl hz2 hz18 (fun c19 => ?_) (fun c19 => ?_)
    · refine h_iconst (pc' := 17) (x := (Int32.ofInt 0)) rfl rfl rfl ?_
      refine h_zret rfl rfl ci_0 (by omega) (h_Kv ?_)
      refine h_zeq (tg := 27) (pc' := 11) rfl rfl rfl ci_0 (fun c20 => ?_) (fun c20 => absurd (Int.le_antisymm (by omega) (by omega)) c20)
      refine h_iconst (pc' := 28) (x := (Int32.ofInt (-1))) rfl rfl rfl ?_
      refine h_iret rfl rfl (h_Kv ?_)
      refine h_iret rfl rfl (h_Kv ?_)
      refine h_pop (pc' := 586) rfl rfl rfl ?_
      refine h_aload_n (pc' := 587) rfl rfl rfl ?_
      refine h_aload_n (pc' := 588) rfl rfl rfl ?_
      refine h_iload_n (pc' := 589) rfl rfl rfl ?_
      refine h_iconst (pc' := 590) (x := (Int32.ofInt 1)) rfl rfl rfl ?_
      refine h_iadd (pc' := 591) rfl rfl hy3 ci_1 rfl (by omega) (by omega) (fun z21 hz21 => ?_)
      refine h_iald (pc' := 592) (v := s0 0 (b3 + 1)) rfl rfl rfl hz21 (by omega) (by omega) rfl (fun z22 hz22 => ?_)
      have tz22 := h_rgv hz22
      refine h_aload_n (pc' := 593) rfl rfl rfl ?_
      refine h_iload_n (pc' := 594) rfl rfl rfl ?_
      refine h_iconst (pc' := 595) (x := (Int32.ofInt 2)) rfl rfl rfl ?_
      refine h_iadd (pc' := 596) rfl rfl hy3 ci_2 rfl (by omega) (by omega) (fun z23 hz23 => ?_)
      refine h_iald (pc' := 597) (v := s0 0 (b3 + 2)) rfl rfl rfl hz23 (by omega) (by omega) rfl (fun z24 hz24 => ?_)
      have tz24 := h_rgv hz24
      refine h_call (sp := false) (pc' := 600) (M := [(0, .ref 98), (1, .int z22), (2, .int z24)]) rfl rfl rfl rfl rfl rfl rfl rfl ?_
      refine h_aload_n (pc' := 1) rfl rfl rfl ?_
      refine h_iconst (pc' := 2) (x := (Int32.ofInt 1)) rfl rfl rfl ?_
      refine h_iload_n (pc' := 3) rfl rfl rfl ?_
      refine h_iload_n (pc' := 4) rfl rfl rfl ?_
      refine h_call (sp := false) (pc' := 7) (M := [(0, .ref 98), (1, .int (Int32.ofInt 1)), (2, .int z22), (3, .int z24)]) rfl rfl rfl rfl rfl rfl rfl rfl ?_
      refine h_aload_n (pc' := 1) rfl rfl rfl ?_
      refine h_iload_n (pc' := 2) rfl rfl rfl ?_
      refine h_call (sp := false) (pc' := 5) (M := [(0, .ref 98), (1, .int z22)]) rfl rfl rfl rfl rfl rfl rfl rfl ?_
      refine h_iload_n (pc' := 1) rfl rfl rfl ?_
      refine h_i2l (pc' := 2) rfl rfl hz22 (fun z25 hz25 => ?_)
      refine h_lconst (pc' := 3) (x := (Int64.ofInt 0)) rfl rfl rfl ?_
      refine h_aload_n (pc' := 4) rfl rfl rfl ?_
      refine h_getI (pc' := 7) (v := s0 98 1) rfl rfl rfl rfl rfl rfl (fun z26 hz26 => ?_)
      have tz26 := tf_98_1 I0
      refine h_iconst (pc' := 8) (x := (Int32.ofInt 1)) rfl rfl rfl ?_
      refine h_isub (pc' := 9) rfl rfl hz26 ci_1 rfl (by omega) (by omega) (fun z27 hz27 => ?_)
      refine h_i2l (pc' := 10) rfl rfl hz27 (fun z28 hz28 => ?_)
      refine h_calls (pc' := 13) (M := [(0, .long z25), (2, .long (Int64.ofInt 0)), (4, .long z28)]) rfl rfl rfl rfl rfl rfl ?_
      refine h_lload_n (pc' := 1) rfl rfl rfl ?_
      refine h_lload_n (pc' := 2) rfl rfl rfl ?_
      refine h_lcmp (pc' := 3) rfl rfl hz25 cl_0 (fun z29 hz29 => ?_)
      refine h_zlt (tg := 17) (pc' := 6) rfl rfl rfl rfl (fun c30 => absurd c30 (by omega)) (fun c30 => ?_)
      replace c30 := (h_lcr hz29).2.1 c30
      clear hz29
      refine h_lload_n (pc' := 7) rfl rfl rfl ?_
      refine h_lload (pc' := 9) rfl rfl rfl ?_
      refine h_lcmp (pc' := 10) rfl rfl hz25 hz28 (fun z31 hz31 => ?_)
      refine h_zgt (tg := 17) (pc' := 13) rfl rfl rfl rfl (fun c32 => ?_) (fun c32 => absurd c32 (by omega))
      replace c32 := (h_lcr hz31).2.2.2.1 c32
      clear hz31
      refine h_iconst (pc' := 18) (x := (Int32.ofInt 0)) rfl rfl rfl ?_
      refine h_zret rfl rfl ci_0 (by omega) (h_Kv ?_)
      refine h_zret rfl rfl ci_0 (by omega) (h_Kv ?_)
      refine h_zeq (tg := 21) (pc' := 8) rfl rfl rfl ci_0 (fun c33 => ?_) (fun c33 => absurd (Int.le_antisymm (by omega) (by omega)) c33)
      refine h_iconst (pc' := 22) (x := (Int32.ofInt (-1))) rfl rfl rfl ?_
      refine h_iret rfl rfl (h_Kv ?_)
      refine h_iret rfl rfl (h_Kv ?_)
      refine h_pop (pc' := 601) rfl rfl rfl ?_
      refine h_goto (pc' := 1441) rfl rfl ?_
      exact kk _ I0 (by first | exact d_tape.le j0 (Int.le_antisymm (by omega) (by omega)) (by omega) (fun j => rfl) (fun j => rfl) | (exfalso; omega)) (Int.le_antisymm (by omega) (by omega)) j2
    · refine h_iconst (pc' := 13) (x := (Int32.ofInt 1)) rfl rfl rfl ?_
      refine h_goto (pc' := 17) rfl rfl ?_
      refine h_zret rfl rfl ci_1 (by omega) (h_Kv ?_)
      refine h_zeq (tg := 27) (pc' := 11) rfl rfl rfl ci_1 (fun c34 => absurd c34 (by omega)) (fun c34 => ?_)
      refine h_aload_n (pc' := 12) rfl rfl rfl ?_
      refine h_getR (pc' := 15) rfl rfl rfl rfl rfl ?_
      refine h_iload_n (pc' := 16) rfl rfl rfl ?_
      refine h_call (sp := false) (pc' := 19) (M := [(0, .ref 10), (1, .int z4)]) rfl rfl rfl rfl rfl rfl rfl rfl ?_
      refine h_iload_n (pc' := 1) rfl rfl rfl ?_
      refine h_zlt (tg := 16) (pc' := 4) rfl rfl rfl hz4 (fun c35 => ?_) (fun c35 => ?_)
      · refine h_iconst (pc' := 17) (x := (Int32.ofInt 0)) rfl rfl rfl ?_
        refine h_zret rfl rfl ci_0 (by omega) (h_Kv ?_)
        refine h_zeq (tg := 27) (pc' := 22) rfl rfl rfl ci_0 (fun c36 => ?_) (fun c36 => absurd (Int.le_antisymm (by omega) (by omega)) c36)
        refine h_iconst (pc' := 28) (x := (Int32.ofInt (-1))) rfl rfl rfl ?_
        refine h_iret rfl rfl (h_Kv ?_)
        refine h_iret rfl rfl (h_Kv ?_)
        refine h_pop (pc' := 586) rfl rfl rfl ?_
        refine h_aload_n (pc' := 587) rfl rfl rfl ?_
        refine h_aload_n (pc' := 588) rfl rfl rfl ?_
        refine h_iload_n (pc' := 589) rfl rfl rfl ?_
        refine h_iconst (pc' := 590) (x := (Int32.ofInt 1)) rfl rfl rfl ?_
        refine h_iadd (pc' := 591) rfl rfl hy3 ci_1 rfl (by omega) (by omega) (fun z37 hz37 => ?_)
        refine h_iald (pc' := 592) (v := s0 0 (b3 + 1)) rfl rfl rfl hz37 (by omega) (by omega) rfl (fun z38 hz38 => ?_)
        have tz38 := h_rgv hz38
        refine h_aload_n (pc' := 593) rfl rfl rfl ?_
        refine h_iload_n (pc' := 594) rfl rfl rfl ?_
        refine h_iconst (pc' := 595) (x := (Int32.ofInt 2)) rfl rfl rfl ?_
        refine h_iadd (pc' := 596) rfl rfl hy3 ci_2 rfl (by omega) (by omega) (fun z39 hz39 => ?_)
        refine h_iald (pc' := 597) (v := s0 0 (b3 + 2)) rfl rfl rfl hz39 (by omega) (by omega) rfl (fun z40 hz40 => ?_)
        have tz40 := h_rgv hz40
        refine h_call (sp := false) (pc' := 600) (M := [(0, .ref 98), (1, .int z38), (2, .int z40)]) rfl rfl rfl rfl rfl rfl rfl rfl ?_
        refine h_aload_n (pc' := 1) rfl rfl rfl ?_
        refine h_iconst (pc' := 2) (x := (Int32.ofInt 1)) rfl rfl rfl ?_
        refine h_iload_n (pc' := 3) rfl rfl rfl ?_
        refine h_iload_n (pc' := 4) rfl rfl rfl ?_
        refine h_call (sp := false) (pc' := 7) (M := [(0, .ref 98), (1, .int (Int32.ofInt 1)), (2, .int z38), (3, .int z40)]) rfl rfl rfl rfl rfl rfl rfl rfl ?_
        refine h_aload_n (pc' := 1) rfl rfl rfl ?_
        refine h_iload_n (pc' := 2) rfl rfl rfl ?_
        refine h_call (sp := false) (pc' := 5) (M := [(0, .ref 98), (1, .int z38)]) rfl rfl rfl rfl rfl rfl rfl rfl ?_
        refine h_iload_n (pc' := 1) rfl rfl rfl ?_
        refine h_i2l (pc' := 2) rfl rfl hz38 (fun z41 hz41 => ?_)
        refine h_lconst (pc' := 3) (x := (Int64.ofInt 0)) rfl rfl rfl ?_
        refine h_aload_n (pc' := 4) rfl rfl rfl ?_
        refine h_getI (pc' := 7) (v := s0 98 1) rfl rfl rfl rfl rfl rfl (fun z42 hz42 => ?_)
        have tz42 := tf_98_1 I0
        refine h_iconst (pc' := 8) (x := (Int32.ofInt 1)) rfl rfl rfl ?_
        refine h_isub (pc' := 9) rfl rfl hz42 ci_1 rfl (by omega) (by omega) (fun z43 hz43 => ?_)
        refine h_i2l (pc' := 10) rfl rfl hz43 (fun z44 hz44 => ?_)
        refine h_calls (pc' := 13) (M := [(0, .long z41), (2, .long (Int64.ofInt 0)), (4, .long z44)]) rfl rfl rfl rfl rfl rfl ?_
        refine h_lload_n (pc' := 1) rfl rfl rfl ?_
        refine h_lload_n (pc' := 2) rfl rfl rfl ?_
        refine h_lcmp (pc' := 3) rfl rfl hz41 cl_0 (fun z45 hz45 => ?_)
        refine h_zlt (tg := 17) (pc' := 6) rfl rfl rfl rfl (fun c46 => absurd c46 (by omega)) (fun c46 => ?_)
        replace c46 := (h_lcr hz45).2.1 c46
        clear hz45
        refine h_lload_n (pc' := 7) rfl rfl rfl ?_
        refine h_lload (pc' := 9) rfl rfl rfl ?_
        refine h_lcmp (pc' := 10) rfl rfl hz41 hz44 (fun z47 hz47 => ?_)
        refine h_zgt (tg := 17) (pc' := 13) rfl rfl rfl rfl (fun c48 => absurd c48 (by omega)) (fun c48 => ?_)
        replace c48 := (h_lcr hz47).2.2.1 c48
        clear hz47
        refine h_iconst (pc' := 14) (x := (Int32.ofInt 1)) rfl rfl rfl ?_
        refine h_goto (pc' := 18) rfl rfl ?_
        refine h_zret rfl rfl ci_1 (by omega) (h_Kv ?_)
        refine h_zret rfl rfl ci_1 (by omega) (h_Kv ?_)
        refine h_zeq (tg := 21) (pc' := 8) rfl rfl rfl ci_1 (fun c49 => absurd c49 (by omega)) (fun c49 => ?_)
        refine h_aload_n (pc' := 9) rfl rfl rfl ?_
        refine h_iload_n (pc' := 10) rfl rfl rfl ?_
        refine h_call (sp := false) (pc' := 13) (M := [(0, .ref 98), (1, .int z40)]) rfl rfl rfl rfl rfl rfl rfl rfl ?_
        refine h_iload_n (pc' := 1) rfl rfl rfl ?_
        refine h_i2l (pc' := 2) rfl rfl hz40 (fun z50 hz50 => ?_)
        refine h_lconst (pc' := 3) (x := (Int64.ofInt 0)) rfl rfl rfl ?_
        refine h_aload_n (pc' := 4) rfl rfl rfl ?_
        refine h_getI (pc' := 7) (v := s0 98 1) rfl rfl rfl rfl rfl rfl (fun z51 hz51 => ?_)
        have tz51 := tf_98_1 I0
        refine h_iconst (pc' := 8) (x := (Int32.ofInt 1)) rfl rfl rfl ?_
        refine h_isub (pc' := 9) rfl rfl hz51 ci_1 rfl (by omega) (by omega) (fun z52 hz52 => ?_)
        refine h_i2l (pc' := 10) rfl rfl hz52 (fun z53 hz53 => ?_)
        refine h_calls (pc' := 13) (M := [(0, .long z50), (2, .long (Int64.ofInt 0)), (4, .long z53)]) rfl rfl rfl rfl rfl rfl ?_
        refine h_lload_n (pc' := 1) rfl rfl rfl ?_
        refine h_lload_n (pc' := 2) rfl rfl rfl ?_
        refine h_lcmp (pc' := 3) rfl rfl hz50 cl_0 (fun z54 hz54 => ?_)
        refine h_zlt (tg := 17) (pc' := 6) rfl rfl rfl rfl (fun c55 => ?_) (fun c55 => absurd c55 (by omega))
        replace c55 := (h_lcr hz54).1 c55
        clear hz54
        refine h_iconst (pc' := 18) (x := (Int32.ofInt 0)) rfl rfl rfl ?_
        refine h_zret rfl rfl ci_0 (by omega) (h_Kv ?_)
        refine h_zret rfl rfl ci_0 (by omega) (h_Kv ?_)
        refine h_zeq (tg := 21) (pc' := 16) rfl rfl rfl ci_0 (fun c56 => ?_) (fun c56 => absurd (Int.le_antisymm (by omega) (by omega)) c56)
        refine h_iconst (pc' := 22) (x := (Int32.ofInt (-1))) rfl rfl rfl ?_
        refine h_iret rfl rfl (h_Kv ?_)
        refine h_iret rfl rfl (h_Kv ?_)
        refine h_pop (pc' := 601) rfl rfl rfl ?_
        refine h_goto (pc' := 1441) rfl rfl ?_
        exact kk _ I0 (by first | exact d_tape.le j0 (Int.le_antisymm (by omega) (by omega)) (by omega) (fun j => rfl) (fun j => rfl) | (exfalso; omega)) (Int.le_antisymm (by omega) (by omega)) j2
      · refine h_iload_n (pc' := 5) rfl rfl rfl ?_
        refine h_aload_n (pc' := 6) rfl rfl rfl ?_
        refine h_getI (pc' := 9) (v := s0 10 8) rfl rfl rfl rfl rfl rfl (fun z57 hz57 => ?_)
        have tz57 := tf_10_8 I0
        refine h_cge (tg := 16) (pc' := 12) rfl rfl rfl hz4 hz57 (fun c58 => ?_) (fun c58 => ?_)
        · refine h_iconst (pc' := 17) (x := (Int32.ofInt 0)) rfl rfl rfl ?_
          refine h_zret rfl rfl ci_0 (by omega) (h_Kv ?_)
          refine h_zeq (tg := 27) (pc' := 22) rfl rfl rfl ci_0 (fun c59 => ?_) (fun c59 => absurd (Int.le_antisymm (by omega) (by omega)) c59)
          refine h_iconst (pc' := 28) (x := (Int32.ofInt (-1))) rfl rfl rfl ?_
          refine h_iret rfl rfl (h_Kv ?_)
          refine h_iret rfl rfl (h_Kv ?_)
          refine h_pop (pc' := 586) rfl rfl rfl ?_
          refine h_aload_n (pc' := 587) rfl rfl rfl ?_
          refine h_aload_n (pc' := 588) rfl rfl rfl ?_
          refine h_iload_n (pc' := 589) rfl rfl rfl ?_
          refine h_iconst (pc' := 590) (x := (Int32.ofInt 1)) rfl rfl rfl ?_
          refine h_iadd (pc' := 591) rfl rfl hy3 ci_1 rfl (by omega) (by omega) (fun z60 hz60 => ?_)
          refine h_iald (pc' := 592) (v := s0 0 (b3 + 1)) rfl rfl rfl hz60 (by omega) (by omega) rfl (fun z61 hz61 => ?_)
          have tz61 := h_rgv hz61
          refine h_aload_n (pc' := 593) rfl rfl rfl ?_
          refine h_iload_n (pc' := 594) rfl rfl rfl ?_
          refine h_iconst (pc' := 595) (x := (Int32.ofInt 2)) rfl rfl rfl ?_
          refine h_iadd (pc' := 596) rfl rfl hy3 ci_2 rfl (by omega) (by omega) (fun z62 hz62 => ?_)
          refine h_iald (pc' := 597) (v := s0 0 (b3 + 2)) rfl rfl rfl hz62 (by omega) (by omega) rfl (fun z63 hz63 => ?_)
          have tz63 := h_rgv hz63
          refine h_call (sp := false) (pc' := 600) (M := [(0, .ref 98), (1, .int z61), (2, .int z63)]) rfl rfl rfl rfl rfl rfl rfl rfl ?_
          refine h_aload_n (pc' := 1) rfl rfl rfl ?_
          refine h_iconst (pc' := 2) (x := (Int32.ofInt 1)) rfl rfl rfl ?_
          refine h_iload_n (pc' := 3) rfl rfl rfl ?_
          refine h_iload_n (pc' := 4) rfl rfl rfl ?_
          refine h_call (sp := false) (pc' := 7) (M := [(0, .ref 98), (1, .int (Int32.ofInt 1)), (2, .int z61), (3, .int z63)]) rfl rfl rfl rfl rfl rfl rfl rfl ?_
          refine h_aload_n (pc' := 1) rfl rfl rfl ?_
          refine h_iload_n (pc' := 2) rfl rfl rfl ?_
          refine h_call (sp := false) (pc' := 5) (M := [(0, .ref 98), (1, .int z61)]) rfl rfl rfl rfl rfl rfl rfl rfl ?_
          refine h_iload_n (pc' := 1) rfl rfl rfl ?_
          refine h_i2l (pc' := 2) rfl rfl hz61 (fun z64 hz64 => ?_)
          refine h_lconst (pc' := 3) (x := (Int64.ofInt 0)) rfl rfl rfl ?_
          refine h_aload_n (pc' := 4) rfl rfl rfl ?_
          refine h_getI (pc' := 7) (v := s0 98 1) rfl rfl rfl rfl rfl rfl (fun z65 hz65 => ?_)
          have tz65 := tf_98_1 I0
          refine h_iconst (pc' := 8) (x := (Int32.ofInt 1)) rfl rfl rfl ?_
          refine h_isub (pc' := 9) rfl rfl hz65 ci_1 rfl (by omega) (by omega) (fun z66 hz66 => ?_)
          refine h_i2l (pc' := 10) rfl rfl hz66 (fun z67 hz67 => ?_)
          refine h_calls (pc' := 13) (M := [(0, .long z64), (2, .long (Int64.ofInt 0)), (4, .long z67)]) rfl rfl rfl rfl rfl rfl ?_
          refine h_lload_n (pc' := 1) rfl rfl rfl ?_
          refine h_lload_n (pc' := 2) rfl rfl rfl ?_
          refine h_lcmp (pc' := 3) rfl rfl hz64 cl_0 (fun z68 hz68 => ?_)
          refine h_zlt (tg := 17) (pc' := 6) rfl rfl rfl rfl (fun c69 => absurd c69 (by omega)) (fun c69 => ?_)
          replace c69 := (h_lcr hz68).2.1 c69
          clear hz68
          refine h_lload_n (pc' := 7) rfl rfl rfl ?_
          refine h_lload (pc' := 9) rfl rfl rfl ?_
          refine h_lcmp (pc' := 10) rfl rfl hz64 hz67 (fun z70 hz70 => ?_)
          refine h_zgt (tg := 17) (pc' := 13) rfl rfl rfl rfl (fun c71 => absurd c71 (by omega)) (fun c71 => ?_)
          replace c71 := (h_lcr hz70).2.2.1 c71
          clear hz70
          refine h_iconst (pc' := 14) (x := (Int32.ofInt 1)) rfl rfl rfl ?_
          refine h_goto (pc' := 18) rfl rfl ?_
          refine h_zret rfl rfl ci_1 (by omega) (h_Kv ?_)
          refine h_zret rfl rfl ci_1 (by omega) (h_Kv ?_)
          refine h_zeq (tg := 21) (pc' := 8) rfl rfl rfl ci_1 (fun c72 => absurd c72 (by omega)) (fun c72 => ?_)
          refine h_aload_n (pc' := 9) rfl rfl rfl ?_
          refine h_iload_n (pc' := 10) rfl rfl rfl ?_
          refine h_call (sp := false) (pc' := 13) (M := [(0, .ref 98), (1, .int z63)]) rfl rfl rfl rfl rfl rfl rfl rfl ?_
          refine h_iload_n (pc' := 1) rfl rfl rfl ?_
          refine h_i2l (pc' := 2) rfl rfl hz63 (fun z73 hz73 => ?_)
          refine h_lconst (pc' := 3) (x := (Int64.ofInt 0)) rfl rfl rfl ?_
          refine h_aload_n (pc' := 4) rfl rfl rfl ?_
          refine h_getI (pc' := 7) (v := s0 98 1) rfl rfl rfl rfl rfl rfl (fun z74 hz74 => ?_)
          have tz74 := tf_98_1 I0
          refine h_iconst (pc' := 8) (x := (Int32.ofInt 1)) rfl rfl rfl ?_
          refine h_isub (pc' := 9) rfl rfl hz74 ci_1 rfl (by omega) (by omega) (fun z75 hz75 => ?_)
          refine h_i2l (pc' := 10) rfl rfl hz75 (fun z76 hz76 => ?_)
          refine h_calls (pc' := 13) (M := [(0, .long z73), (2, .long (Int64.ofInt 0)), (4, .long z76)]) rfl rfl rfl rfl rfl rfl ?_
          refine h_lload_n (pc' := 1) rfl rfl rfl ?_
          refine h_lload_n (pc' := 2) rfl rfl rfl ?_
          refine h_lcmp (pc' := 3) rfl rfl hz73 cl_0 (fun z77 hz77 => ?_)
          refine h_zlt (tg := 17) (pc' := 6) rfl rfl rfl rfl (fun c78 => absurd c78 (by omega)) (fun c78 => ?_)
          replace c78 := (h_lcr hz77).2.1 c78
          clear hz77
          refine h_lload_n (pc' := 7) rfl rfl rfl ?_
          refine h_lload (pc' := 9) rfl rfl rfl ?_
          refine h_lcmp (pc' := 10) rfl rfl hz73 hz76 (fun z79 hz79 => ?_)
          refine h_zgt (tg := 17) (pc' := 13) rfl rfl rfl rfl (fun c80 => ?_) (fun c80 => absurd c80 (by omega))
          replace c80 := (h_lcr hz79).2.2.2.1 c80
          clear hz79
          refine h_iconst (pc' := 18) (x := (Int32.ofInt 0)) rfl rfl rfl ?_
          refine h_zret rfl rfl ci_0 (by omega) (h_Kv ?_)
          refine h_zret rfl rfl ci_0 (by omega) (h_Kv ?_)
          refine h_zeq (tg := 21) (pc' := 16) rfl rfl rfl ci_0 (fun c81 => ?_) (fun c81 => absurd (Int.le_antisymm (by omega) (by omega)) c81)
          refine h_iconst (pc' := 22) (x := (Int32.ofInt (-1))) rfl rfl rfl ?_
          refine h_iret rfl rfl (h_Kv ?_)
          refine h_iret rfl rfl (h_Kv ?_)
          refine h_pop (pc' := 601) rfl rfl rfl ?_
          refine h_goto (pc' := 1441) rfl rfl ?_
          exact kk _ I0 (by first | exact d_tape.le j0 (Int.le_antisymm (by omega) (by omega)) (by omega) (fun j => rfl) (fun j => rfl) | (exfalso; omega)) (Int.le_antisymm (by omega) (by omega)) j2
        · refine h_iconst (pc' := 13) (x := (Int32.ofInt 1)) rfl rfl rfl ?_
          refine h_goto (pc' := 17) rfl rfl ?_
          refine h_zret rfl rfl ci_1 (by omega) (h_Kv ?_)
          refine h_zeq (tg := 27) (pc' := 22) rfl rfl rfl ci_1 (fun c82 => absurd c82 (by omega)) (fun c82 => ?_)
          refine h_iload_n (pc' := 23) rfl rfl rfl ?_
          refine h_iload_n (pc' := 24) rfl rfl rfl ?_
          refine h_cne (tg := 29) (pc' := 27) rfl rfl rfl hz2 hz4 (fun c83 => ?_) (fun c83 => ?_)
          · refine h_aload_n (pc' := 30) rfl rfl rfl ?_
            refine h_iload_n (pc' := 31) rfl rfl rfl ?_
            refine h_iload_n (pc' := 32) rfl rfl rfl ?_
            refine h_call (sp := false) (pc' := 35) (M := [(0, .ref 16), (1, .int z2), (2, .int z4)]) rfl rfl rfl rfl rfl rfl rfl rfl ?_
            refine h_aload_n (pc' := 1) rfl rfl rfl ?_
            refine h_call (sp := false) (pc' := 4) (M := [(0, .ref 16)]) rfl rfl rfl rfl rfl rfl rfl rfl ?_
            refine h_aload_n (pc' := 1) rfl rfl rfl ?_
            refine h_getI (pc' := 4) (v := s0 16 2) rfl rfl rfl rfl rfl rfl (fun z84 hz84 => ?_)
            have tz84 := tf_16_2 I0
            refine h_iconst (pc' := 5) (x := (Int32.ofInt 3)) rfl rfl rfl ?_
            refine h_clt (tg := 12) (pc' := 8) rfl rfl rfl hz84 ci_3 (fun c85 => ?_) (fun c85 => ?_)
            · refine h_iconst (pc' := 13) (x := (Int32.ofInt 0)) rfl rfl rfl ?_
              refine h_zret rfl rfl ci_0 (by omega) (h_Kv ?_)
              refine h_zeq (tg := 9) (pc' := 7) rfl rfl rfl ci_0 (fun c86 => ?_) (fun c86 => absurd (Int.le_antisymm (by omega) (by omega)) c86)
              refine h_aload_n (pc' := 10) rfl rfl rfl ?_
              refine h_getR (pc' := 13) rfl rfl rfl rfl rfl ?_
              refine h_aload_n (pc' := 14) rfl rfl rfl ?_
              refine h_getI (pc' := 17) (v := s0 16 2) rfl rfl rfl rfl rfl rfl (fun z87 hz87 => ?_)
              have tz87 := tf_16_2 I0
              refine h_iload_n (pc' := 18) rfl rfl rfl ?_
              refine h_iast (pc' := 19) rfl rfl rfl rfl hz87 (by omega) (by omega) hz2 (h_fgt (E := fun s => s 64 1 = s0 64 1 ∧ s 98 11 = s0 98 11 ∧ s 64 4 = s0 64 4 ∧ s 98 16 = s0 98 16 ∧ s 63 2 = s0 63 2 ∧ s 10 8 = s0 10 8 ∧ s 98 1 = s0 98 1 ∧ s 10 9 = s0 10 9 ∧ s 98 2 = s0 98 2 ∧ s 10 10 = s0 10 10 ∧ s 99 43 = s0 99 43 ∧ s 13 2 = s0 13 2 ∧ s 99 18 = s0 99 18 ∧ s 16 2 = s0 16 2 ∧ s 99 25 = s0 99 25 ∧ s 62 0 = s0 62 0 ∧ s 110 0 = s0 110 0 ∧ s 62 1 = s0 62 1 ∧ s 110 1 = s0 110 1 ∧ s = h_up s0 17 (s0 16 2) (s0 0 (b3 + 1))) _ (in_17 I0 (by omega)) (F0_.up rfl) ⟨rfl, rfl, rfl, rfl, rfl, rfl, rfl, rfl, rfl, rfl, rfl, rfl, rfl, rfl, rfl, rfl, rfl, rfl, rfl, rfl⟩ (fun s88 Is88 Fs88 (es88 : s88 64 1 = s0 64 1 ∧ s88 98 11 = s0 98 11 ∧ s88 64 4 = s0 64 4 ∧ s88 98 16 = s0 98 16 ∧ s88 63 2 = s0 63 2 ∧ s88 10 8 = s0 10 8 ∧ s88 98 1 = s0 98 1 ∧ s88 10 9 = s0 10 9 ∧ s88 98 2 = s0 98 2 ∧ s88 10 10 = s0 10 10 ∧ s88 99 43 = s0 99 43 ∧ s88 13 2 = s0 13 2 ∧ s88 99 18 = s0 99 18 ∧ s88 16 2 = s0 16 2 ∧ s88 99 25 = s0 99 25 ∧ s88 62 0 = s0 62 0 ∧ s88 110 0 = s0 110 0 ∧ s88 62 1 = s0 62 1 ∧ s88 110 1 = s0 110 1 ∧ s88 = h_up s0 17 (s0 16 2) (s0 0 (b3 + 1))) => ?_))
              have us88 := es88.2.2.2.2.2.2.2.2.2.2.2.2.2.2.2.2.2.2.2
              have Zs88 : ∀ i, s88 0 i = s0 0 i := fun i => (h_upo us88 rfl i).trans rfl
              refine h_aload_n (pc' := 20) rfl rfl rfl ?_
              refine h_getR (pc' := 23) rfl rfl rfl rfl rfl ?_
              refine h_aload_n (pc' := 24) rfl rfl rfl ?_
              refine h_getI (pc' := 27) (v := s0 16 2) rfl rfl rfl rfl rfl es88.2.2.2.2.2.2.2.2.2.2.2.2.2.1 (fun z89 hz89 => ?_)
              have tz89 := tf_16_2 I0
              refine h_iload_n (pc' := 28) rfl rfl rfl ?_
              refine h_iast (pc' := 29) rfl rfl rfl rfl hz89 (by omega) (by omega) hz4 (h_fgt (E := fun s => s 64 1 = s0 64 1 ∧ s 98 11 = s0 98 11 ∧ s 64 4 = s0 64 4 ∧ s 98 16 = s0 98 16 ∧ s 63 2 = s0 63 2 ∧ s 10 8 = s0 10 8 ∧ s 98 1 = s0 98 1 ∧ s 10 9 = s0 10 9 ∧ s 98 2 = s0 98 2 ∧ s 10 10 = s0 10 10 ∧ s 99 43 = s0 99 43 ∧ s 13 2 = s0 13 2 ∧ s 99 18 = s0 99 18 ∧ s 16 2 = s0 16 2 ∧ s 99 25 = s0 99 25 ∧ s 62 0 = s0 62 0 ∧ s 110 0 = s0 110 0 ∧ s 62 1 = s0 62 1 ∧ s 110 1 = s0 110 1 ∧ s = h_up s88 18 (s0 16 2) (s0 0 (b3 + 2))) _ (in_18 Is88 (by omega)) (Fs88.up rfl) ⟨es88.1, es88.2.1, es88.2.2.1, es88.2.2.2.1, es88.2.2.2.2.1, es88.2.2.2.2.2.1, es88.2.2.2.2.2.2.1, es88.2.2.2.2.2.2.2.1, es88.2.2.2.2.2.2.2.2.1, es88.2.2.2.2.2.2.2.2.2.1, es88.2.2.2.2.2.2.2.2.2.2.1, es88.2.2.2.2.2.2.2.2.2.2.2.1, es88.2.2.2.2.2.2.2.2.2.2.2.2.1, es88.2.2.2.2.2.2.2.2.2.2.2.2.2.1, es88.2.2.2.2.2.2.2.2.2.2.2.2.2.2.1, es88.2.2.2.2.2.2.2.2.2.2.2.2.2.2.2.1, es88.2.2.2.2.2.2.2.2.2.2.2.2.2.2.2.2.1, es88.2.2.2.2.2.2.2.2.2.2.2.2.2.2.2.2.2.1, es88.2.2.2.2.2.2.2.2.2.2.2.2.2.2.2.2.2.2.1, rfl⟩ (fun s90 Is90 Fs90 (es90 : s90 64 1 = s0 64 1 ∧ s90 98 11 = s0 98 11 ∧ s90 64 4 = s0 64 4 ∧ s90 98 16 = s0 98 16 ∧ s90 63 2 = s0 63 2 ∧ s90 10 8 = s0 10 8 ∧ s90 98 1 = s0 98 1 ∧ s90 10 9 = s0 10 9 ∧ s90 98 2 = s0 98 2 ∧ s90 10 10 = s0 10 10 ∧ s90 99 43 = s0 99 43 ∧ s90 13 2 = s0 13 2 ∧ s90 99 18 = s0 99 18 ∧ s90 16 2 = s0 16 2 ∧ s90 99 25 = s0 99 25 ∧ s90 62 0 = s0 62 0 ∧ s90 110 0 = s0 110 0 ∧ s90 62 1 = s0 62 1 ∧ s90 110 1 = s0 110 1 ∧ s90 = h_up s88 18 (s0 16 2) (s0 0 (b3 + 2))) => ?_))
              clear es88
              have us90 := es90.2.2.2.2.2.2.2.2.2.2.2.2.2.2.2.2.2.2.2
              have Zs90 : ∀ i, s90 0 i = s0 0 i := fun i => (h_upo us90 rfl i).trans (Zs88 i)
              refine h_aload_n (pc' := 30) rfl rfl rfl ?_
              refine h_dup (pc' := 31) rfl rfl rfl ?_
              refine h_getI (pc' := 34) (v := s0 16 2) rfl rfl rfl rfl rfl es90.2.2.2.2.2.2.2.2.2.2.2.2.2.1 (fun z91 hz91 => ?_)
              have tz91 := tf_16_2 I0
              refine h_iconst (pc' := 35) (x := (Int32.ofInt 1)) rfl rfl rfl ?_
              refine h_iadd (pc' := 36) rfl rfl hz91 ci_1 rfl (by omega) (by omega) (fun z92 hz92 => ?_)
              refine h_put (pc' := 39) rfl rfl rfl rfl rfl rfl hz92 rfl (h_fgt (E := fun s => s 64 1 = s0 64 1 ∧ s 98 11 = s0 98 11 ∧ s 64 4 = s0 64 4 ∧ s 98 16 = s0 98 16 ∧ s 63 2 = s0 63 2 ∧ s 10 8 = s0 10 8 ∧ s 98 1 = s0 98 1 ∧ s 10 9 = s0 10 9 ∧ s 98 2 = s0 98 2 ∧ s 10 10 = s0 10 10 ∧ s 99 43 = s0 99 43 ∧ s 13 2 = s0 13 2 ∧ s 99 18 = s0 99 18 ∧ s 16 2 = ((s0 16 2) + 1) ∧ s 99 25 = s0 99 25 ∧ s 62 0 = s0 62 0 ∧ s 110 0 = s0 110 0 ∧ s 62 1 = s0 62 1 ∧ s 110 1 = s0 110 1 ∧ s = h_up s90 16 2 ((s0 16 2) + 1)) _ (if_16_2 Is90 (by omega)) (Fs90.up rfl) ⟨es90.1, es90.2.1, es90.2.2.1, es90.2.2.2.1, es90.2.2.2.2.1, es90.2.2.2.2.2.1, es90.2.2.2.2.2.2.1, es90.2.2.2.2.2.2.2.1, es90.2.2.2.2.2.2.2.2.1, es90.2.2.2.2.2.2.2.2.2.1, es90.2.2.2.2.2.2.2.2.2.2.1, es90.2.2.2.2.2.2.2.2.2.2.2.1, es90.2.2.2.2.2.2.2.2.2.2.2.2.1, rfl, es90.2.2.2.2.2.2.2.2.2.2.2.2.2.2.1, es90.2.2.2.2.2.2.2.2.2.2.2.2.2.2.2.1, es90.2.2.2.2.2.2.2.2.2.2.2.2.2.2.2.2.1, es90.2.2.2.2.2.2.2.2.2.2.2.2.2.2.2.2.2.1, es90.2.2.2.2.2.2.2.2.2.2.2.2.2.2.2.2.2.2.1, rfl⟩ (fun s93 Is93 Fs93 (es93 : s93 64 1 = s0 64 1 ∧ s93 98 11 = s0 98 11 ∧ s93 64 4 = s0 64 4 ∧ s93 98 16 = s0 98 16 ∧ s93 63 2 = s0 63 2 ∧ s93 10 8 = s0 10 8 ∧ s93 98 1 = s0 98 1 ∧ s93 10 9 = s0 10 9 ∧ s93 98 2 = s0 98 2 ∧ s93 10 10 = s0 10 10 ∧ s93 99 43 = s0 99 43 ∧ s93 13 2 = s0 13 2 ∧ s93 99 18 = s0 99 18 ∧ s93 16 2 = ((s0 16 2) + 1) ∧ s93 99 25 = s0 99 25 ∧ s93 62 0 = s0 62 0 ∧ s93 110 0 = s0 110 0 ∧ s93 62 1 = s0 62 1 ∧ s93 110 1 = s0 110 1 ∧ s93 = h_up s90 16 2 ((s0 16 2) + 1)) => ?_))
              clear es90
              have us93 := es93.2.2.2.2.2.2.2.2.2.2.2.2.2.2.2.2.2.2.2
              have Zs93 : ∀ i, s93 0 i = s0 0 i := fun i => (h_upo us93 rfl i).trans (Zs90 i)
              refine h_iconst (pc' := 40) (x := (Int32.ofInt 1)) rfl rfl rfl ?_
              refine h_zret rfl rfl ci_1 (by omega) (h_Kv ?_)
              refine h_zeq (tg := 45) (pc' := 38) rfl rfl rfl ci_1 (fun c94 => absurd c94 (by omega)) (fun c94 => ?_)
              refine h_aload_n (pc' := 39) rfl rfl rfl ?_
              refine h_getI (pc' := 42) (v := ((s0 16 2) + 1)) rfl rfl rfl rfl rfl es93.2.2.2.2.2.2.2.2.2.2.2.2.2.1 (fun z95 hz95 => ?_)
              refine h_goto (pc' := 47) rfl rfl ?_
              refine h_iret rfl rfl (h_Kv ?_)
              refine h_iret rfl rfl (h_Kv ?_)
              refine h_pop (pc' := 586) rfl rfl rfl ?_
              refine h_aload_n (pc' := 587) rfl rfl rfl ?_
              refine h_aload_n (pc' := 588) rfl rfl rfl ?_
              refine h_iload_n (pc' := 589) rfl rfl rfl ?_
              refine h_iconst (pc' := 590) (x := (Int32.ofInt 1)) rfl rfl rfl ?_
              refine h_iadd (pc' := 591) rfl rfl hy3 ci_1 rfl (by omega) (by omega) (fun z96 hz96 => ?_)
              refine h_iald (pc' := 592) (v := s0 0 (b3 + 1)) rfl rfl rfl hz96 (by omega) (by omega) (Zs93 _) (fun z97 hz97 => ?_)
              have tz97 := h_rgv hz97
              refine h_aload_n (pc' := 593) rfl rfl rfl ?_
              refine h_iload_n (pc' := 594) rfl rfl rfl ?_
              refine h_iconst (pc' := 595) (x := (Int32.ofInt 2)) rfl rfl rfl ?_
              refine h_iadd (pc' := 596) rfl rfl hy3 ci_2 rfl (by omega) (by omega) (fun z98 hz98 => ?_)
              refine h_iald (pc' := 597) (v := s0 0 (b3 + 2)) rfl rfl rfl hz98 (by omega) (by omega) (Zs93 _) (fun z99 hz99 => ?_)
              have tz99 := h_rgv hz99
              refine h_call (sp := false) (pc' := 600) (M := [(0, .ref 98), (1, .int z97), (2, .int z99)]) rfl rfl rfl rfl rfl rfl rfl rfl ?_
              refine h_aload_n (pc' := 1) rfl rfl rfl ?_
              refine h_iconst (pc' := 2) (x := (Int32.ofInt 1)) rfl rfl rfl ?_
              refine h_iload_n (pc' := 3) rfl rfl rfl ?_
              refine h_iload_n (pc' := 4) rfl rfl rfl ?_
              refine h_call (sp := false) (pc' := 7) (M := [(0, .ref 98), (1, .int (Int32.ofInt 1)), (2, .int z97), (3, .int z99)]) rfl rfl rfl rfl rfl rfl rfl rfl ?_
              refine h_aload_n (pc' := 1) rfl rfl rfl ?_
              refine h_iload_n (pc' := 2) rfl rfl rfl ?_
              refine h_call (sp := false) (pc' := 5) (M := [(0, .ref 98), (1, .int z97)]) rfl rfl rfl rfl rfl rfl rfl rfl ?_
              refine h_iload_n (pc' := 1) rfl rfl rfl ?_
              refine h_i2l (pc' := 2) rfl rfl hz97 (fun z100 hz100 => ?_)
              refine h_lconst (pc' := 3) (x := (Int64.ofInt 0)) rfl rfl rfl ?_
              refine h_aload_n (pc' := 4) rfl rfl rfl ?_
              refine h_getI (pc' := 7) (v := s0 98 1) rfl rfl rfl rfl rfl es93.2.2.2.2.2.2.1 (fun z101 hz101 => ?_)
              have tz101 := tf_98_1 I0
              refine h_iconst (pc' := 8) (x := (Int32.ofInt 1)) rfl rfl rfl ?_
              refine h_isub (pc' := 9) rfl rfl hz101 ci_1 rfl (by omega) (by omega) (fun z102 hz102 => ?_)
              refine h_i2l (pc' := 10) rfl rfl hz102 (fun z103 hz103 => ?_)
              refine h_calls (pc' := 13) (M := [(0, .long z100), (2, .long (Int64.ofInt 0)), (4, .long z103)]) rfl rfl rfl rfl rfl rfl ?_
              refine h_lload_n (pc' := 1) rfl rfl rfl ?_
              refine h_lload_n (pc' := 2) rfl rfl rfl ?_
              refine h_lcmp (pc' := 3) rfl rfl hz100 cl_0 (fun z104 hz104 => ?_)
              refine h_zlt (tg := 17) (pc' := 6) rfl rfl rfl rfl (fun c105 => absurd c105 (by omega)) (fun c105 => ?_)
              replace c105 := (h_lcr hz104).2.1 c105
              clear hz104
              refine h_lload_n (pc' := 7) rfl rfl rfl ?_
              refine h_lload (pc' := 9) rfl rfl rfl ?_
              refine h_lcmp (pc' := 10) rfl rfl hz100 hz103 (fun z106 hz106 => ?_)
              refine h_zgt (tg := 17) (pc' := 13) rfl rfl rfl rfl (fun c107 => absurd c107 (by omega)) (fun c107 => ?_)
              replace c107 := (h_lcr hz106).2.2.1 c107
              clear hz106
              refine h_iconst (pc' := 14) (x := (Int32.ofInt 1)) rfl rfl rfl ?_
              refine h_goto (pc' := 18) rfl rfl ?_
              refine h_zret rfl rfl ci_1 (by omega) (h_Kv ?_)
              refine h_zret rfl rfl ci_1 (by omega) (h_Kv ?_)
              refine h_zeq (tg := 21) (pc' := 8) rfl rfl rfl ci_1 (fun c108 => absurd c108 (by omega)) (fun c108 => ?_)
              refine h_aload_n (pc' := 9) rfl rfl rfl ?_
              refine h_iload_n (pc' := 10) rfl rfl rfl ?_
              refine h_call (sp := false) (pc' := 13) (M := [(0, .ref 98), (1, .int z99)]) rfl rfl rfl rfl rfl rfl rfl rfl ?_
              refine h_iload_n (pc' := 1) rfl rfl rfl ?_
              refine h_i2l (pc' := 2) rfl rfl hz99 (fun z109 hz109 => ?_)
              refine h_lconst (pc' := 3) (x := (Int64.ofInt 0)) rfl rfl rfl ?_
              refine h_aload_n (pc' := 4) rfl rfl rfl ?_
              refine h_getI (pc' := 7) (v := s0 98 1) rfl rfl rfl rfl rfl es93.2.2.2.2.2.2.1 (fun z110 hz110 => ?_)
              have tz110 := tf_98_1 I0
              refine h_iconst (pc' := 8) (x := (Int32.ofInt 1)) rfl rfl rfl ?_
              refine h_isub (pc' := 9) rfl rfl hz110 ci_1 rfl (by omega) (by omega) (fun z111 hz111 => ?_)
              refine h_i2l (pc' := 10) rfl rfl hz111 (fun z112 hz112 => ?_)
              refine h_calls (pc' := 13) (M := [(0, .long z109), (2, .long (Int64.ofInt 0)), (4, .long z112)]) rfl rfl rfl rfl rfl rfl ?_
              refine h_lload_n (pc' := 1) rfl rfl rfl ?_
              refine h_lload_n (pc' := 2) rfl rfl rfl ?_
              refine h_lcmp (pc' := 3) rfl rfl hz109 cl_0 (fun z113 hz113 => ?_)
              refine h_zlt (tg := 17) (pc' := 6) rfl rfl rfl rfl (fun c114 => absurd c114 (by omega)) (fun c114 => ?_)
              replace c114 := (h_lcr hz113).2.1 c114
              clear hz113
              refine h_lload_n (pc' := 7) rfl rfl rfl ?_
              refine h_lload (pc' := 9) rfl rfl rfl ?_
              refine h_lcmp (pc' := 10) rfl rfl hz109 hz112 (fun z115 hz115 => ?_)
              refine h_zgt (tg := 17) (pc' := 13) rfl rfl rfl rfl (fun c116 => absurd c116 (by omega)) (fun c116 => ?_)
              replace c116 := (h_lcr hz115).2.2.1 c116
              clear hz115
              refine h_iconst (pc' := 14) (x := (Int32.ofInt 1)) rfl rfl rfl ?_
              refine h_goto (pc' := 18) rfl rfl ?_
              refine h_zret rfl rfl ci_1 (by omega) (h_Kv ?_)
              refine h_zret rfl rfl ci_1 (by omega) (h_Kv ?_)
              refine h_zeq (tg := 21) (pc' := 16) rfl rfl rfl ci_1 (fun c117 => absurd c117 (by omega)) (fun c117 => ?_)
              refine h_iload_n (pc' := 17) rfl rfl rfl ?_
              refine h_iload_n (pc' := 18) rfl rfl rfl ?_
              refine h_cne (tg := 23) (pc' := 21) rfl rfl rfl hz97 hz99 (fun c118 => ?_) (fun c118 => absurd c118 (by omega))
              refine h_iload_n (pc' := 24) rfl rfl rfl ?_
              refine h_calls (pc' := 27) (M := [(0, .int (Int32.ofInt 1))]) rfl rfl rfl rfl rfl rfl ?_
              refine h_iload_n (pc' := 1) rfl rfl rfl ?_
              refine h_zne (tg := 9) (pc' := 4) rfl rfl rfl ci_1 (fun c119 => ?_) (fun c119 => absurd c119 (by omega))
              refine h_bipush (pc' := 11) (x := (Int32.ofInt 19)) rfl rfl cb_19 ?_
              refine h_iret rfl rfl (h_Kv ?_)
              refine h_istore (pc' := 29) (M := [(4, .int (Int32.ofInt 19)), (0, .ref 98), (1, .int (Int32.ofInt 1)), (2, .int z97), (3, .int z99)]) rfl rfl rfl rfl ?_
              refine h_aload_n (pc' := 30) rfl rfl rfl ?_
              refine h_getR (pc' := 33) rfl rfl rfl rfl rfl ?_
              refine h_iload (pc' := 35) rfl rfl rfl ?_
              refine h_bipush (pc' := 37) (x := (Int32.ofInt 6)) rfl rfl cb_6 ?_
              refine h_iadd (pc' := 38) (c := 25) rfl rfl ci_19 ci_6 rfl (by omega) (by omega) (fun z120 hz120 => ?_)
              refine h_iald (pc' := 39) (v := s0 99 25) rfl rfl rfl hz120 (by omega) (by omega) es93.2.2.2.2.2.2.2.2.2.2.2.2.2.2.1 (fun z121 hz121 => ?_)
              have tz121 := ty_99_5 I0 25 (by omega)
              refine h_istore (pc' := 41) (M := [(5, .int z121), (4, .int (Int32.ofInt 19)), (0, .ref 98), (1, .int (Int32.ofInt 1)), (2, .int z97), (3, .int z99)]) rfl rfl rfl rfl ?_
              refine h_iload (pc' := 43) rfl rfl rfl ?_
              refine h_iconst (pc' := 44) (x := (Int32.ofInt 3)) rfl rfl rfl ?_
              refine h_cne (tg := 50) (pc' := 47) rfl rfl rfl hz121 ci_3 (fun c122 => ?_) (fun c122 => absurd c122 (by omega))
              refine h_aload_n (pc' := 51) rfl rfl rfl ?_
              refine h_getR (pc' := 54) rfl rfl rfl rfl rfl ?_
              refine h_iload (pc' := 56) rfl rfl rfl ?_
              refine h_iconst (pc' := 57) (x := (Int32.ofInt 2)) rfl rfl rfl ?_
              refine h_iload (pc' := 59) rfl rfl rfl ?_
              refine h_imul (pc' := 60) rfl rfl ci_2 hz121 rfl (by omega) (by omega) (fun z123 hz123 => ?_)
              refine h_iadd (pc' := 61) rfl rfl ci_19 hz123 rfl (by omega) (by omega) (fun z124 hz124 => ?_)
              refine h_iload_n (pc' := 62) rfl rfl rfl ?_
              refine h_iast (pc' := 63) rfl rfl rfl rfl hz124 (by omega) (by omega) hz97 (h_fgt (E := fun s => s 64 1 = s0 64 1 ∧ s 98 11 = s0 98 11 ∧ s 64 4 = s0 64 4 ∧ s 98 16 = s0 98 16 ∧ s 63 2 = s0 63 2 ∧ s 10 8 = s0 10 8 ∧ s 98 1 = s0 98 1 ∧ s 10 9 = s0 10 9 ∧ s 98 2 = s0 98 2 ∧ s 10 10 = s0 10 10 ∧ s 99 43 = s0 99 43 ∧ s 13 2 = s0 13 2 ∧ s 99 18 = s0 99 18 ∧ s 16 2 = ((s0 16 2) + 1) ∧ s 99 25 = s0 99 25 ∧ s 62 0 = s0 62 0 ∧ s 110 0 = s0 110 0 ∧ s 62 1 = s0 62 1 ∧ s 110 1 = s0 110 1 ∧ s = h_up s93 99 (19 + (2 * (s0 99 25))) (s0 0 (b3 + 1))) _ (ip_99_4 Is93 (by omega) (by omega)) (Fs93.up (k_ipg (p := 0) rfl rfl (by omega))) ⟨es93.1, es93.2.1, es93.2.2.1, es93.2.2.2.1, es93.2.2.2.2.1, es93.2.2.2.2.2.1, es93.2.2.2.2.2.2.1, es93.2.2.2.2.2.2.2.1, es93.2.2.2.2.2.2.2.2.1, es93.2.2.2.2.2.2.2.2.2.1, h_up_n2 (by omega) es93.2.2.2.2.2.2.2.2.2.2.1, es93.2.2.2.2.2.2.2.2.2.2.2.1, h_up_n2 (by omega) es93.2.2.2.2.2.2.2.2.2.2.2.2.1, es93.2.2.2.2.2.2.2.2.2.2.2.2.2.1, h_up_n2 (by omega) es93.2.2.2.2.2.2.2.2.2.2.2.2.2.2.1, es93.2.2.2.2.2.2.2.2.2.2.2.2.2.2.2.1, es93.2.2.2.2.2.2.2.2.2.2.2.2.2.2.2.2.1, es93.2.2.2.2.2.2.2.2.2.2.2.2.2.2.2.2.2.1, es93.2.2.2.2.2.2.2.2.2.2.2.2.2.2.2.2.2.2.1, rfl⟩ (fun s125 Is125 Fs125 (es125 : s125 64 1 = s0 64 1 ∧ s125 98 11 = s0 98 11 ∧ s125 64 4 = s0 64 4 ∧ s125 98 16 = s0 98 16 ∧ s125 63 2 = s0 63 2 ∧ s125 10 8 = s0 10 8 ∧ s125 98 1 = s0 98 1 ∧ s125 10 9 = s0 10 9 ∧ s125 98 2 = s0 98 2 ∧ s125 10 10 = s0 10 10 ∧ s125 99 43 = s0 99 43 ∧ s125 13 2 = s0 13 2 ∧ s125 99 18 = s0 99 18 ∧ s125 16 2 = ((s0 16 2) + 1) ∧ s125 99 25 = s0 99 25 ∧ s125 62 0 = s0 62 0 ∧ s125 110 0 = s0 110 0 ∧ s125 62 1 = s0 62 1 ∧ s125 110 1 = s0 110 1 ∧ s125 = h_up s93 99 (19 + (2 * (s0 99 25))) (s0 0 (b3 + 1))) => ?_))
              clear es93
              have us125 := es125.2.2.2.2.2.2.2.2.2.2.2.2.2.2.2.2.2.2.2
              have Zs125 : ∀ i, s125 0 i = s0 0 i := fun i => (h_upo us125 rfl i).trans (Zs93 i)
              refine h_aload_n (pc' := 64) rfl rfl rfl ?_
              refine h_getR (pc' := 67) rfl rfl rfl rfl rfl ?_
              refine h_iload (pc' := 69) rfl rfl rfl ?_
              refine h_iconst (pc' := 70) (x := (Int32.ofInt 2)) rfl rfl rfl ?_
              refine h_iload (pc' := 72) rfl rfl rfl ?_
              refine h_imul (pc' := 73) rfl rfl ci_2 hz121 rfl (by omega) (by omega) (fun z126 hz126 => ?_)
              refine h_iadd (pc' := 74) rfl rfl ci_19 hz126 rfl (by omega) (by omega) (fun z127 hz127 => ?_)
              refine h_iconst (pc' := 75) (x := (Int32.ofInt 1)) rfl rfl rfl ?_
              refine h_iadd (pc' := 76) rfl rfl hz127 ci_1 rfl (by omega) (by omega) (fun z128 hz128 => ?_)
              refine h_iload_n (pc' := 77) rfl rfl rfl ?_
              refine h_iast (pc' := 78) rfl rfl rfl rfl hz128 (by omega) (by omega) hz99 (h_fgt (E := fun s => s 64 1 = s0 64 1 ∧ s 98 11 = s0 98 11 ∧ s 64 4 = s0 64 4 ∧ s 98 16 = s0 98 16 ∧ s 63 2 = s0 63 2 ∧ s 10 8 = s0 10 8 ∧ s 98 1 = s0 98 1 ∧ s 10 9 = s0 10 9 ∧ s 98 2 = s0 98 2 ∧ s 10 10 = s0 10 10 ∧ s 99 43 = s0 99 43 ∧ s 13 2 = s0 13 2 ∧ s 99 18 = s0 99 18 ∧ s 16 2 = ((s0 16 2) + 1) ∧ s 99 25 = s0 99 25 ∧ s 62 0 = s0 62 0 ∧ s 110 0 = s0 110 0 ∧ s 62 1 = s0 62 1 ∧ s 110 1 = s0 110 1 ∧ s = h_up s125 99 ((19 + (2 * (s0 99 25))) + 1) (s0 0 (b3 + 2))) _ (ip_99_4 Is125 (by omega) (by omega)) (Fs125.up (k_ipg (p := 0) rfl rfl (by omega))) ⟨es125.1, es125.2.1, es125.2.2.1, es125.2.2.2.1, es125.2.2.2.2.1, es125.2.2.2.2.2.1, es125.2.2.2.2.2.2.1, es125.2.2.2.2.2.2.2.1, es125.2.2.2.2.2.2.2.2.1, es125.2.2.2.2.2.2.2.2.2.1, h_up_n2 (by omega) es125.2.2.2.2.2.2.2.2.2.2.1, es125.2.2.2.2.2.2.2.2.2.2.2.1, h_up_n2 (by omega) es125.2.2.2.2.2.2.2.2.2.2.2.2.1, es125.2.2.2.2.2.2.2.2.2.2.2.2.2.1, h_up_n2 (by omega) es125.2.2.2.2.2.2.2.2.2.2.2.2.2.2.1, es125.2.2.2.2.2.2.2.2.2.2.2.2.2.2.2.1, es125.2.2.2.2.2.2.2.2.2.2.2.2.2.2.2.2.1, es125.2.2.2.2.2.2.2.2.2.2.2.2.2.2.2.2.2.1, es125.2.2.2.2.2.2.2.2.2.2.2.2.2.2.2.2.2.2.1, rfl⟩ (fun s129 Is129 Fs129 (es129 : s129 64 1 = s0 64 1 ∧ s129 98 11 = s0 98 11 ∧ s129 64 4 = s0 64 4 ∧ s129 98 16 = s0 98 16 ∧ s129 63 2 = s0 63 2 ∧ s129 10 8 = s0 10 8 ∧ s129 98 1 = s0 98 1 ∧ s129 10 9 = s0 10 9 ∧ s129 98 2 = s0 98 2 ∧ s129 10 10 = s0 10 10 ∧ s129 99 43 = s0 99 43 ∧ s129 13 2 = s0 13 2 ∧ s129 99 18 = s0 99 18 ∧ s129 16 2 = ((s0 16 2) + 1) ∧ s129 99 25 = s0 99 25 ∧ s129 62 0 = s0 62 0 ∧ s129 110 0 = s0 110 0 ∧ s129 62 1 = s0 62 1 ∧ s129 110 1 = s0 110 1 ∧ s129 = h_up s125 99 ((19 + (2 * (s0 99 25))) + 1) (s0 0 (b3 + 2))) => ?_))
              clear es125
              have us129 := es129.2.2.2.2.2.2.2.2.2.2.2.2.2.2.2.2.2.2.2
              have Zs129 : ∀ i, s129 0 i = s0 0 i := fun i => (h_upo us129 rfl i).trans (Zs125 i)
              refine h_aload_n (pc' := 79) rfl rfl rfl ?_
              refine h_getR (pc' := 82) rfl rfl rfl rfl rfl ?_
              refine h_iload (pc' := 84) rfl rfl rfl ?_
              refine h_bipush (pc' := 86) (x := (Int32.ofInt 6)) rfl rfl cb_6 ?_
              refine h_iadd (pc' := 87) (c := 25) rfl rfl ci_19 ci_6 rfl (by omega) (by omega) (fun z130 hz130 => ?_)
              refine h_dup2 (pc' := 88) rfl rfl rfl ?_
              refine h_iald (pc' := 89) (v := s0 99 25) rfl rfl rfl hz130 (by omega) (by omega) es129.2.2.2.2.2.2.2.2.2.2.2.2.2.2.1 (fun z131 hz131 => ?_)
              have tz131 := ty_99_5 I0 25 (by omega)
              refine h_iconst (pc' := 90) (x := (Int32.ofInt 1)) rfl rfl rfl ?_
              refine h_iadd (pc' := 91) rfl rfl hz131 ci_1 rfl (by omega) (by omega) (fun z132 hz132 => ?_)
              refine h_iast (pc' := 92) rfl rfl rfl rfl hz130 (by omega) (by omega) hz132 (h_fgt (E := fun s => s 64 1 = s0 64 1 ∧ s 98 11 = s0 98 11 ∧ s 64 4 = s0 64 4 ∧ s 98 16 = s0 98 16 ∧ s 63 2 = s0 63 2 ∧ s 10 8 = s0 10 8 ∧ s 98 1 = s0 98 1 ∧ s 10 9 = s0 10 9 ∧ s 98 2 = s0 98 2 ∧ s 10 10 = s0 10 10 ∧ s 99 43 = s0 99 43 ∧ s 13 2 = s0 13 2 ∧ s 99 18 = s0 99 18 ∧ s 16 2 = ((s0 16 2) + 1) ∧ s 99 25 = ((s0 99 25) + 1) ∧ s 62 0 = s0 62 0 ∧ s 110 0 = s0 110 0 ∧ s 62 1 = s0 62 1 ∧ s 110 1 = s0 110 1 ∧ s = h_up s129 99 25 ((s0 99 25) + 1)) _ (ip_99_5 Is129 (by omega) (by omega)) (Fs129.up (k_ipg (p := 0) rfl rfl (by omega))) ⟨es129.1, es129.2.1, es129.2.2.1, es129.2.2.2.1, es129.2.2.2.2.1, es129.2.2.2.2.2.1, es129.2.2.2.2.2.2.1, es129.2.2.2.2.2.2.2.1, es129.2.2.2.2.2.2.2.2.1, es129.2.2.2.2.2.2.2.2.2.1, es129.2.2.2.2.2.2.2.2.2.2.1, es129.2.2.2.2.2.2.2.2.2.2.2.1, es129.2.2.2.2.2.2.2.2.2.2.2.2.1, es129.2.2.2.2.2.2.2.2.2.2.2.2.2.1, rfl, es129.2.2.2.2.2.2.2.2.2.2.2.2.2.2.2.1, es129.2.2.2.2.2.2.2.2.2.2.2.2.2.2.2.2.1, es129.2.2.2.2.2.2.2.2.2.2.2.2.2.2.2.2.2.1, es129.2.2.2.2.2.2.2.2.2.2.2.2.2.2.2.2.2.2.1, rfl⟩ (fun s133 Is133 Fs133 (es133 : s133 64 1 = s0 64 1 ∧ s133 98 11 = s0 98 11 ∧ s133 64 4 = s0 64 4 ∧ s133 98 16 = s0 98 16 ∧ s133 63 2 = s0 63 2 ∧ s133 10 8 = s0 10 8 ∧ s133 98 1 = s0 98 1 ∧ s133 10 9 = s0 10 9 ∧ s133 98 2 = s0 98 2 ∧ s133 10 10 = s0 10 10 ∧ s133 99 43 = s0 99 43 ∧ s133 13 2 = s0 13 2 ∧ s133 99 18 = s0 99 18 ∧ s133 16 2 = ((s0 16 2) + 1) ∧ s133 99 25 = ((s0 99 25) + 1) ∧ s133 62 0 = s0 62 0 ∧ s133 110 0 = s0 110 0 ∧ s133 62 1 = s0 62 1 ∧ s133 110 1 = s0 110 1 ∧ s133 = h_up s129 99 25 ((s0 99 25) + 1)) => ?_))
              clear es129
              have us133 := es133.2.2.2.2.2.2.2.2.2.2.2.2.2.2.2.2.2.2.2
              have Zs133 : ∀ i, s133 0 i = s0 0 i := fun i => (h_upo us133 rfl i).trans (Zs129 i)
              refine h_iload (pc' := 94) rfl rfl rfl ?_
              refine h_iconst (pc' := 95) (x := (Int32.ofInt 1)) rfl rfl rfl ?_
              refine h_iadd (pc' := 96) rfl rfl hz121 ci_1 rfl (by omega) (by omega) (fun z134 hz134 => ?_)
              refine h_iret rfl rfl (h_Kv ?_)
              refine h_iret rfl rfl (h_Kv ?_)
              refine h_pop (pc' := 601) rfl rfl rfl ?_
              refine h_goto (pc' := 1441) rfl rfl ?_
              exact kk _ Is133 (by first | exact d_tape.le j0 (Int.le_antisymm (by omega) (by omega)) (by omega) (fun j => (h_upo us133 rfl j).trans ((h_upo us129 rfl j).trans ((h_upo us125 rfl j).trans ((h_upo us93 rfl j).trans ((h_upo us90 rfl j).trans ((h_upo us88 rfl j))))))) (fun j => (h_upo us133 rfl j).trans ((h_upo us129 rfl j).trans ((h_upo us125 rfl j).trans ((h_upo us93 rfl j).trans ((h_upo us90 rfl j).trans ((h_upo us88 rfl j))))))) | (exfalso; omega)) (Int.le_antisymm (by omega) (by omega)) (c_R.feu j2 I0 (by omega) (by omega) (by omega) (by omega) (by omega) (Int.le_antisymm (by omega) (by omega)) (Int.le_antisymm (by omega) (by omega)) (Int.le_antisymm (by omega) (by omega)) (Int.le_antisymm (by omega) (by omega)) (Int.le_antisymm (by omega) (by omega)) (Int.le_antisymm (by omega) (by omega)) (fun j => (h_upo us133 rfl j).trans ((h_upo us129 rfl j).trans ((h_upo us125 rfl j).trans ((h_upo us93 rfl j).trans ((h_upo us90 rfl j).trans ((h_upi us88 j))))))) (fun j => (h_upo us133 rfl j).trans ((h_upo us129 rfl j).trans ((h_upo us125 rfl j).trans ((h_upo us93 rfl j).trans ((h_upi us90 j).trans (congrArg (fun z => if j = (s0 16 2) then (s0 0 (b3 + 2)) else z) ((h_upo us88 rfl j)))))))) (Int.le_antisymm (by omega) (by omega)) (fun j => (h_upi us133 j).trans (congrArg (fun z => if j = 25 then ((s0 99 25) + 1) else z) ((h_upi us129 j).trans (congrArg (fun z => if j = ((19 + (2 * (s0 99 25))) + 1) then (s0 0 (b3 + 2)) else z) ((h_upi us125 j).trans (congrArg (fun z => if j = (19 + (2 * (s0 99 25))) then (s0 0 (b3 + 1)) else z) ((h_upo us93 rfl j).trans ((h_upo us90 rfl j).trans ((h_upo us88 rfl j))))))))))  (fun p j n0 n1 n2 n3 => (h_upq us133 n3 j).trans ((h_upq us129 n3 j).trans ((h_upq us125 n3 j).trans ((h_upq us93 n0 j).trans ((h_upq us90 n2 j).trans ((h_upq us88 n1 j))))))))
            · refine h_iconst (pc' := 9) (x := (Int32.ofInt 1)) rfl rfl rfl ?_
              refine h_goto (pc' := 13) rfl rfl ?_
              refine h_zret rfl rfl ci_1 (by omega) (h_Kv ?_)
              refine h_zeq (tg := 9) (pc' := 7) rfl rfl rfl ci_1 (fun c135 => absurd c135 (by omega)) (fun c135 => ?_)
              refine h_iconst (pc' := 8) (x := (Int32.ofInt 0)) rfl rfl rfl ?_
              refine h_zret rfl rfl ci_0 (by omega) (h_Kv ?_)
              refine h_zeq (tg := 45) (pc' := 38) rfl rfl rfl ci_0 (fun c136 => ?_) (fun c136 => absurd (Int.le_antisymm (by omega) (by omega)) c136)
              refine h_bipush (pc' := 47) (x := (Int32.ofInt (-3))) rfl rfl cb_m3 ?_
              refine h_iret rfl rfl (h_Kv ?_)
              refine h_iret rfl rfl (h_Kv ?_)
              refine h_pop (pc' := 586) rfl rfl rfl ?_
              refine h_aload_n (pc' := 587) rfl rfl rfl ?_
              refine h_aload_n (pc' := 588) rfl rfl rfl ?_
              refine h_iload_n (pc' := 589) rfl rfl rfl ?_
              refine h_iconst (pc' := 590) (x := (Int32.ofInt 1)) rfl rfl rfl ?_
              refine h_iadd (pc' := 591) rfl rfl hy3 ci_1 rfl (by omega) (by omega) (fun z137 hz137 => ?_)
              refine h_iald (pc' := 592) (v := s0 0 (b3 + 1)) rfl rfl rfl hz137 (by omega) (by omega) rfl (fun z138 hz138 => ?_)
              have tz138 := h_rgv hz138
              refine h_aload_n (pc' := 593) rfl rfl rfl ?_
              refine h_iload_n (pc' := 594) rfl rfl rfl ?_
              refine h_iconst (pc' := 595) (x := (Int32.ofInt 2)) rfl rfl rfl ?_
              refine h_iadd (pc' := 596) rfl rfl hy3 ci_2 rfl (by omega) (by omega) (fun z139 hz139 => ?_)
              refine h_iald (pc' := 597) (v := s0 0 (b3 + 2)) rfl rfl rfl hz139 (by omega) (by omega) rfl (fun z140 hz140 => ?_)
              have tz140 := h_rgv hz140
              refine h_call (sp := false) (pc' := 600) (M := [(0, .ref 98), (1, .int z138), (2, .int z140)]) rfl rfl rfl rfl rfl rfl rfl rfl ?_
              refine h_aload_n (pc' := 1) rfl rfl rfl ?_
              refine h_iconst (pc' := 2) (x := (Int32.ofInt 1)) rfl rfl rfl ?_
              refine h_iload_n (pc' := 3) rfl rfl rfl ?_
              refine h_iload_n (pc' := 4) rfl rfl rfl ?_
              refine h_call (sp := false) (pc' := 7) (M := [(0, .ref 98), (1, .int (Int32.ofInt 1)), (2, .int z138), (3, .int z140)]) rfl rfl rfl rfl rfl rfl rfl rfl ?_
              refine h_aload_n (pc' := 1) rfl rfl rfl ?_
              refine h_iload_n (pc' := 2) rfl rfl rfl ?_
              refine h_call (sp := false) (pc' := 5) (M := [(0, .ref 98), (1, .int z138)]) rfl rfl rfl rfl rfl rfl rfl rfl ?_
              refine h_iload_n (pc' := 1) rfl rfl rfl ?_
              refine h_i2l (pc' := 2) rfl rfl hz138 (fun z141 hz141 => ?_)
              refine h_lconst (pc' := 3) (x := (Int64.ofInt 0)) rfl rfl rfl ?_
              refine h_aload_n (pc' := 4) rfl rfl rfl ?_
              refine h_getI (pc' := 7) (v := s0 98 1) rfl rfl rfl rfl rfl rfl (fun z142 hz142 => ?_)
              have tz142 := tf_98_1 I0
              refine h_iconst (pc' := 8) (x := (Int32.ofInt 1)) rfl rfl rfl ?_
              refine h_isub (pc' := 9) rfl rfl hz142 ci_1 rfl (by omega) (by omega) (fun z143 hz143 => ?_)
              refine h_i2l (pc' := 10) rfl rfl hz143 (fun z144 hz144 => ?_)
              refine h_calls (pc' := 13) (M := [(0, .long z141), (2, .long (Int64.ofInt 0)), (4, .long z144)]) rfl rfl rfl rfl rfl rfl ?_
              refine h_lload_n (pc' := 1) rfl rfl rfl ?_
              refine h_lload_n (pc' := 2) rfl rfl rfl ?_
              refine h_lcmp (pc' := 3) rfl rfl hz141 cl_0 (fun z145 hz145 => ?_)
              refine h_zlt (tg := 17) (pc' := 6) rfl rfl rfl rfl (fun c146 => absurd c146 (by omega)) (fun c146 => ?_)
              replace c146 := (h_lcr hz145).2.1 c146
              clear hz145
              refine h_lload_n (pc' := 7) rfl rfl rfl ?_
              refine h_lload (pc' := 9) rfl rfl rfl ?_
              refine h_lcmp (pc' := 10) rfl rfl hz141 hz144 (fun z147 hz147 => ?_)
              refine h_zgt (tg := 17) (pc' := 13) rfl rfl rfl rfl (fun c148 => absurd c148 (by omega)) (fun c148 => ?_)
              replace c148 := (h_lcr hz147).2.2.1 c148
              clear hz147
              refine h_iconst (pc' := 14) (x := (Int32.ofInt 1)) rfl rfl rfl ?_
              refine h_goto (pc' := 18) rfl rfl ?_
              refine h_zret rfl rfl ci_1 (by omega) (h_Kv ?_)
              refine h_zret rfl rfl ci_1 (by omega) (h_Kv ?_)
              refine h_zeq (tg := 21) (pc' := 8) rfl rfl rfl ci_1 (fun c149 => absurd c149 (by omega)) (fun c149 => ?_)
              refine h_aload_n (pc' := 9) rfl rfl rfl ?_
              refine h_iload_n (pc' := 10) rfl rfl rfl ?_
              refine h_call (sp := false) (pc' := 13) (M := [(0, .ref 98), (1, .int z140)]) rfl rfl rfl rfl rfl rfl rfl rfl ?_
              refine h_iload_n (pc' := 1) rfl rfl rfl ?_
              refine h_i2l (pc' := 2) rfl rfl hz140 (fun z150 hz150 => ?_)
              refine h_lconst (pc' := 3) (x := (Int64.ofInt 0)) rfl rfl rfl ?_
              refine h_aload_n (pc' := 4) rfl rfl rfl ?_
              refine h_getI (pc' := 7) (v := s0 98 1) rfl rfl rfl rfl rfl rfl (fun z151 hz151 => ?_)
              have tz151 := tf_98_1 I0
              refine h_iconst (pc' := 8) (x := (Int32.ofInt 1)) rfl rfl rfl ?_
              refine h_isub (pc' := 9) rfl rfl hz151 ci_1 rfl (by omega) (by omega) (fun z152 hz152 => ?_)
              refine h_i2l (pc' := 10) rfl rfl hz152 (fun z153 hz153 => ?_)
              refine h_calls (pc' := 13) (M := [(0, .long z150), (2, .long (Int64.ofInt 0)), (4, .long z153)]) rfl rfl rfl rfl rfl rfl ?_
              refine h_lload_n (pc' := 1) rfl rfl rfl ?_
              refine h_lload_n (pc' := 2) rfl rfl rfl ?_
              refine h_lcmp (pc' := 3) rfl rfl hz150 cl_0 (fun z154 hz154 => ?_)
              refine h_zlt (tg := 17) (pc' := 6) rfl rfl rfl rfl (fun c155 => absurd c155 (by omega)) (fun c155 => ?_)
              replace c155 := (h_lcr hz154).2.1 c155
              clear hz154
              refine h_lload_n (pc' := 7) rfl rfl rfl ?_
              refine h_lload (pc' := 9) rfl rfl rfl ?_
              refine h_lcmp (pc' := 10) rfl rfl hz150 hz153 (fun z156 hz156 => ?_)
              refine h_zgt (tg := 17) (pc' := 13) rfl rfl rfl rfl (fun c157 => absurd c157 (by omega)) (fun c157 => ?_)
              replace c157 := (h_lcr hz156).2.2.1 c157
              clear hz156
              refine h_iconst (pc' := 14) (x := (Int32.ofInt 1)) rfl rfl rfl ?_
              refine h_goto (pc' := 18) rfl rfl ?_
              refine h_zret rfl rfl ci_1 (by omega) (h_Kv ?_)
              refine h_zret rfl rfl ci_1 (by omega) (h_Kv ?_)
              refine h_zeq (tg := 21) (pc' := 16) rfl rfl rfl ci_1 (fun c158 => absurd c158 (by omega)) (fun c158 => ?_)
              refine h_iload_n (pc' := 17) rfl rfl rfl ?_
              refine h_iload_n (pc' := 18) rfl rfl rfl ?_
              refine h_cne (tg := 23) (pc' := 21) rfl rfl rfl hz138 hz140 (fun c159 => ?_) (fun c159 => absurd c159 (by omega))
              refine h_iload_n (pc' := 24) rfl rfl rfl ?_
              refine h_calls (pc' := 27) (M := [(0, .int (Int32.ofInt 1))]) rfl rfl rfl rfl rfl rfl ?_
              refine h_iload_n (pc' := 1) rfl rfl rfl ?_
              refine h_zne (tg := 9) (pc' := 4) rfl rfl rfl ci_1 (fun c160 => ?_) (fun c160 => absurd c160 (by omega))
              refine h_bipush (pc' := 11) (x := (Int32.ofInt 19)) rfl rfl cb_19 ?_
              refine h_iret rfl rfl (h_Kv ?_)
              refine h_istore (pc' := 29) (M := [(4, .int (Int32.ofInt 19)), (0, .ref 98), (1, .int (Int32.ofInt 1)), (2, .int z138), (3, .int z140)]) rfl rfl rfl rfl ?_
              refine h_aload_n (pc' := 30) rfl rfl rfl ?_
              refine h_getR (pc' := 33) rfl rfl rfl rfl rfl ?_
              refine h_iload (pc' := 35) rfl rfl rfl ?_
              refine h_bipush (pc' := 37) (x := (Int32.ofInt 6)) rfl rfl cb_6 ?_
              refine h_iadd (pc' := 38) (c := 25) rfl rfl ci_19 ci_6 rfl (by omega) (by omega) (fun z161 hz161 => ?_)
              refine h_iald (pc' := 39) (v := s0 99 25) rfl rfl rfl hz161 (by omega) (by omega) rfl (fun z162 hz162 => ?_)
              have tz162 := ty_99_5 I0 25 (by omega)
              refine h_istore (pc' := 41) (M := [(5, .int z162), (4, .int (Int32.ofInt 19)), (0, .ref 98), (1, .int (Int32.ofInt 1)), (2, .int z138), (3, .int z140)]) rfl rfl rfl rfl ?_
              refine h_iload (pc' := 43) rfl rfl rfl ?_
              refine h_iconst (pc' := 44) (x := (Int32.ofInt 3)) rfl rfl rfl ?_
              refine h_cne (tg := 50) (pc' := 47) rfl rfl rfl hz162 ci_3 (fun c163 => absurd (Int.le_antisymm (by omega) (by omega)) c163) (fun c163 => ?_)
              refine h_bipush (pc' := 49) (x := (Int32.ofInt (-3))) rfl rfl cb_m3 ?_
              refine h_iret rfl rfl (h_Kv ?_)
              refine h_iret rfl rfl (h_Kv ?_)
              refine h_pop (pc' := 601) rfl rfl rfl ?_
              refine h_goto (pc' := 1441) rfl rfl ?_
              exact kk _ I0 (by first | exact d_tape.le j0 (Int.le_antisymm (by omega) (by omega)) (by omega) (fun j => rfl) (fun j => rfl) | (exfalso; omega)) (Int.le_antisymm (by omega) (by omega)) j2
          · refine h_iconst (pc' := 28) (x := (Int32.ofInt (-1))) rfl rfl rfl ?_
            refine h_iret rfl rfl (h_Kv ?_)
            refine h_iret rfl rfl (h_Kv ?_)
            refine h_pop (pc' := 586) rfl rfl rfl ?_
            refine h_aload_n (pc' := 587) rfl rfl rfl ?_
            refine h_aload_n (pc' := 588) rfl rfl rfl ?_
            refine h_iload_n (pc' := 589) rfl rfl rfl ?_
            refine h_iconst (pc' := 590) (x := (Int32.ofInt 1)) rfl rfl rfl ?_
            refine h_iadd (pc' := 591) rfl rfl hy3 ci_1 rfl (by omega) (by omega) (fun z164 hz164 => ?_)
            refine h_iald (pc' := 592) (v := s0 0 (b3 + 1)) rfl rfl rfl hz164 (by omega) (by omega) rfl (fun z165 hz165 => ?_)
            have tz165 := h_rgv hz165
            refine h_aload_n (pc' := 593) rfl rfl rfl ?_
            refine h_iload_n (pc' := 594) rfl rfl rfl ?_
            refine h_iconst (pc' := 595) (x := (Int32.ofInt 2)) rfl rfl rfl ?_
            refine h_iadd (pc' := 596) rfl rfl hy3 ci_2 rfl (by omega) (by omega) (fun z166 hz166 => ?_)
            refine h_iald (pc' := 597) (v := s0 0 (b3 + 2)) rfl rfl rfl hz166 (by omega) (by omega) rfl (fun z167 hz167 => ?_)
            have tz167 := h_rgv hz167
            refine h_call (sp := false) (pc' := 600) (M := [(0, .ref 98), (1, .int z165), (2, .int z167)]) rfl rfl rfl rfl rfl rfl rfl rfl ?_
            refine h_aload_n (pc' := 1) rfl rfl rfl ?_
            refine h_iconst (pc' := 2) (x := (Int32.ofInt 1)) rfl rfl rfl ?_
            refine h_iload_n (pc' := 3) rfl rfl rfl ?_
            refine h_iload_n (pc' := 4) rfl rfl rfl ?_
            refine h_call (sp := false) (pc' := 7) (M := [(0, .ref 98), (1, .int (Int32.ofInt 1)), (2, .int z165), (3, .int z167)]) rfl rfl rfl rfl rfl rfl rfl rfl ?_
            refine h_aload_n (pc' := 1) rfl rfl rfl ?_
            refine h_iload_n (pc' := 2) rfl rfl rfl ?_
            refine h_call (sp := false) (pc' := 5) (M := [(0, .ref 98), (1, .int z165)]) rfl rfl rfl rfl rfl rfl rfl rfl ?_
            refine h_iload_n (pc' := 1) rfl rfl rfl ?_
            refine h_i2l (pc' := 2) rfl rfl hz165 (fun z168 hz168 => ?_)
            refine h_lconst (pc' := 3) (x := (Int64.ofInt 0)) rfl rfl rfl ?_
            refine h_aload_n (pc' := 4) rfl rfl rfl ?_
            refine h_getI (pc' := 7) (v := s0 98 1) rfl rfl rfl rfl rfl rfl (fun z169 hz169 => ?_)
            have tz169 := tf_98_1 I0
            refine h_iconst (pc' := 8) (x := (Int32.ofInt 1)) rfl rfl rfl ?_
            refine h_isub (pc' := 9) rfl rfl hz169 ci_1 rfl (by omega) (by omega) (fun z170 hz170 => ?_)
            refine h_i2l (pc' := 10) rfl rfl hz170 (fun z171 hz171 => ?_)
            refine h_calls (pc' := 13) (M := [(0, .long z168), (2, .long (Int64.ofInt 0)), (4, .long z171)]) rfl rfl rfl rfl rfl rfl ?_
            refine h_lload_n (pc' := 1) rfl rfl rfl ?_
            refine h_lload_n (pc' := 2) rfl rfl rfl ?_
            refine h_lcmp (pc' := 3) rfl rfl hz168 cl_0 (fun z172 hz172 => ?_)
            refine h_zlt (tg := 17) (pc' := 6) rfl rfl rfl rfl (fun c173 => absurd c173 (by omega)) (fun c173 => ?_)
            replace c173 := (h_lcr hz172).2.1 c173
            clear hz172
            refine h_lload_n (pc' := 7) rfl rfl rfl ?_
            refine h_lload (pc' := 9) rfl rfl rfl ?_
            refine h_lcmp (pc' := 10) rfl rfl hz168 hz171 (fun z174 hz174 => ?_)
            refine h_zgt (tg := 17) (pc' := 13) rfl rfl rfl rfl (fun c175 => absurd c175 (by omega)) (fun c175 => ?_)
            replace c175 := (h_lcr hz174).2.2.1 c175
            clear hz174
            refine h_iconst (pc' := 14) (x := (Int32.ofInt 1)) rfl rfl rfl ?_
            refine h_goto (pc' := 18) rfl rfl ?_
            refine h_zret rfl rfl ci_1 (by omega) (h_Kv ?_)
            refine h_zret rfl rfl ci_1 (by omega) (h_Kv ?_)
            refine h_zeq (tg := 21) (pc' := 8) rfl rfl rfl ci_1 (fun c176 => absurd c176 (by omega)) (fun c176 => ?_)
            refine h_aload_n (pc' := 9) rfl rfl rfl ?_
            refine h_iload_n (pc' := 10) rfl rfl rfl ?_
            refine h_call (sp := false) (pc' := 13) (M := [(0, .ref 98), (1, .int z167)]) rfl rfl rfl rfl rfl rfl rfl rfl ?_
            refine h_iload_n (pc' := 1) rfl rfl rfl ?_
            refine h_i2l (pc' := 2) rfl rfl hz167 (fun z177 hz177 => ?_)
            refine h_lconst (pc' := 3) (x := (Int64.ofInt 0)) rfl rfl rfl ?_
            refine h_aload_n (pc' := 4) rfl rfl rfl ?_
            refine h_getI (pc' := 7) (v := s0 98 1) rfl rfl rfl rfl rfl rfl (fun z178 hz178 => ?_)
            have tz178 := tf_98_1 I0
            refine h_iconst (pc' := 8) (x := (Int32.ofInt 1)) rfl rfl rfl ?_
            refine h_isub (pc' := 9) rfl rfl hz178 ci_1 rfl (by omega) (by omega) (fun z179 hz179 => ?_)
            refine h_i2l (pc' := 10) rfl rfl hz179 (fun z180 hz180 => ?_)
            refine h_calls (pc' := 13) (M := [(0, .long z177), (2, .long (Int64.ofInt 0)), (4, .long z180)]) rfl rfl rfl rfl rfl rfl ?_
            refine h_lload_n (pc' := 1) rfl rfl rfl ?_
            refine h_lload_n (pc' := 2) rfl rfl rfl ?_
            refine h_lcmp (pc' := 3) rfl rfl hz177 cl_0 (fun z181 hz181 => ?_)
            refine h_zlt (tg := 17) (pc' := 6) rfl rfl rfl rfl (fun c182 => absurd c182 (by omega)) (fun c182 => ?_)
            replace c182 := (h_lcr hz181).2.1 c182
            clear hz181
            refine h_lload_n (pc' := 7) rfl rfl rfl ?_
            refine h_lload (pc' := 9) rfl rfl rfl ?_
            refine h_lcmp (pc' := 10) rfl rfl hz177 hz180 (fun z183 hz183 => ?_)
            refine h_zgt (tg := 17) (pc' := 13) rfl rfl rfl rfl (fun c184 => absurd c184 (by omega)) (fun c184 => ?_)
            replace c184 := (h_lcr hz183).2.2.1 c184
            clear hz183
            refine h_iconst (pc' := 14) (x := (Int32.ofInt 1)) rfl rfl rfl ?_
            refine h_goto (pc' := 18) rfl rfl ?_
            refine h_zret rfl rfl ci_1 (by omega) (h_Kv ?_)
            refine h_zret rfl rfl ci_1 (by omega) (h_Kv ?_)
            refine h_zeq (tg := 21) (pc' := 16) rfl rfl rfl ci_1 (fun c185 => absurd c185 (by omega)) (fun c185 => ?_)
            refine h_iload_n (pc' := 17) rfl rfl rfl ?_
            refine h_iload_n (pc' := 18) rfl rfl rfl ?_
            refine h_cne (tg := 23) (pc' := 21) rfl rfl rfl hz165 hz167 (fun c186 => absurd (Int.le_antisymm (by omega) (by omega)) c186) (fun c186 => ?_)
            refine h_iconst (pc' := 22) (x := (Int32.ofInt (-1))) rfl rfl rfl ?_
            refine h_iret rfl rfl (h_Kv ?_)
            refine h_iret rfl rfl (h_Kv ?_)
            refine h_pop (pc' := 601) rfl rfl rfl ?_
            refine h_goto (pc' := 1441) rfl rfl ?_
            exact kk _ I0 (by first | exact d_tape.le j0 (Int.le_antisymm (by omega) (by omega)) (by omega) (fun j => rfl) (fun j => rfl) | (exfalso; omega)) (Int.le_antisymm (by omega) (by omega)) j2
set_option maxHeartbeats 100000000 in
theorem g_case_604 {ns : Nat} (hns : ns ≤ 320) (s0 : h_S) (I0 : h_I s0) (j0 : d_tape s0 s0) (j1 : s0 64 4 = s0 98 16) (j2 : c_R false s0) (y3 : Int32) (b3 : Int) (hy3 : y3.toInt = b3) (hr : 0 ≤ b3 ∧ b3 + 5 ≤ ns) {Q : Option Value → h_S → Prop} (kk : ∀ τ, h_I τ → (d_tape τ τ) → (τ 64 4 = τ 98 16) → (c_R false τ) → h_T g_P (g_Y ns) 225 1441 [(0, .ref 0), (1, .ref 9), (2, .ref 98), (3, .int y3)] [] τ Q) : h_T g_P (g_Y ns) 225 604 [(0, .ref 0), (1, .ref 9), (2, .ref 98), (3, .int y3)] [] s0 Q := by
  have F0_ : h_F (fun _ _ => true) s0 s0 := h_F.rf
  have j0_ := j0.2
  have i0 := tf_64_1 I0
  have i1 := tf_98_11 I0
  have i2 := tf_64_4 I0
  have i3 := tf_98_16 I0
  have i4 := tf_63_2 I0
  have i5 := tf_10_8 I0
  have i6 := tf_98_1 I0
  have i7 := tf_10_9 I0
  have i8 := tf_98_2 I0
  have i9 := tf_10_10 I0
  have i11 := tf_13_2 I0
  have i13 := tf_16_2 I0
  have j2_ := j2.sz
  have j2i := j2.2.2.1
  have y43 := ty_99_10 I0 43 (by omega)
  have y18 := ty_99_3 I0 18 (by omega)
  have y25 := ty_99_5 I0 25 (by omega)
  have y62_0 := ty_62 I0 0
  have y62_1 := ty_62 I0 1
  have y110_0 := ty_110 I0 0
  have y110_1 := ty_110 I0 1
  refine h_aload_n (pc' := 605) rfl rfl rfl ?_
  refine h_aload_n (pc' := 606) rfl rfl rfl ?_
  refine h_iload_n (pc' := 607) rfl rfl rfl ?_
  refine h_iconst (pc' := 608) (x := (Int32.ofInt 1)) rfl rfl rfl ?_
  refine h_iadd (pc' := 609) rfl rfl hy3 ci_1 rfl (by omega) (by omega) (fun z1 hz1 => ?_)
  refine h_iald (pc' := 610) (v := s0 0 (b3 + 1)) rfl rfl rfl hz1 (by omega) (by omega) rfl (fun z2 hz2 => ?_)
  have tz2 := h_rgv hz2
  refine h_aload_n (pc' := 611) rfl rfl rfl ?_
  refine h_iload_n (pc' := 612) rfl rfl rfl ?_
  refine h_iconst (pc' := 613) (x := (Int32.ofInt 2)) rfl rfl rfl ?_
  refine h_iadd (pc' := 614) rfl rfl hy3 ci_2 rfl (by omega) (by omega) (fun z3 hz3 => ?_)
  refine h_iald (pc' := 615) (v := s0 0 (b3 + 2)) rfl rfl rfl hz3 (by omega) (by omega) rfl (fun z4 hz4 => ?_)
  have tz4 := h_rgv hz4
  refine h_call (sp := false) (pc' := 618) (M := [(0, .ref 9), (1, .int z2), (2, .int z4)]) rfl rfl rfl rfl rfl rfl rfl rfl ?_
  refine h_iload_n (pc' := 1) rfl rfl rfl ?_
  refine h_calls (pc' := 4) (M := [(0, .int z2)]) rfl rfl rfl rfl rfl rfl ?_
  refine h_iload_n (pc' := 1) rfl rfl rfl ?_
  refine h_zeq (tg := 9) (pc' := 4) rfl rfl rfl hz2 (fun c5 => ?_) (fun c5 => ?_)
  · refine h_iconst (pc' := 10) (x := (Int32.ofInt 1)) rfl rfl rfl ?_
    refine h_goto (pc' := 14) rfl rfl ?_
    refine h_zret rfl rfl ci_1 (by omega) (h_Kv ?_)
    refine h_zne (tg := 9) (pc' := 7) rfl rfl rfl ci_1 (fun c6 => ?_) (fun c6 => absurd c6 (by omega))
    refine h_aload_n (pc' := 10) rfl rfl rfl ?_
    refine h_getR (pc' := 13) rfl rfl rfl rfl rfl ?_
    refine h_iload_n (pc' := 14) rfl rfl rfl ?_
    refine h_call (sp := false) (pc' := 17) (M := [(0, .ref 10), (1, .int z2)]) rfl rfl rfl rfl rfl rfl rfl rfl ?_
    refine h_iload_n (pc' := 1) rfl rfl rfl ?_
    refine h_zne (tg := 11) (pc' := 4) rfl rfl rfl hz2 (fun c7 => absurd (Int.le_antisymm (by omega) (by omega)) c7) (fun c7 => ?_)
    refine h_aload_n (pc' := 5) rfl rfl rfl ?_
    refine h_getR (pc' := 8) rfl rfl rfl rfl rfl ?_
    refine h_goto (pc' := 15) rfl rfl ?_
    refine h_aret rfl rfl (h_Kv ?_)
    refine h_astore_n (pc' := 18) (M := [(3, .ref 13), (0, .ref 9), (1, .int z2), (2, .int z4)]) rfl rfl rfl rfl ?_
    refine h_aload_n (pc' := 19) rfl rfl rfl ?_
    refine h_iload_n (pc' := 20) rfl rfl rfl ?_
    refine h_call (sp := false) (pc' := 23) (M := [(0, .ref 13), (1, .int z4)]) rfl rfl rfl rfl rfl rfl rfl rfl ?_
    refine h_iload_n (pc' := 1) rfl rfl rfl ?_
    refine h_zlt (tg := 16) (pc' := 4) rfl rfl rfl hz4 (fun c8 => ?_) (fun c8 => ?_)
    · refine h_iconst (pc' := 17) (x := (Int32.ofInt 0)) rfl rfl rfl ?_
      refine h_zret rfl rfl ci_0 (by omega) (h_Kv ?_)
      refine h_zne (tg := 28) (pc' := 26) rfl rfl rfl ci_0 (fun c9 => absurd (Int.le_antisymm (by omega) (by omega)) c9) (fun c9 => ?_)
      refine h_iconst (pc' := 27) (x := (Int32.ofInt (-1))) rfl rfl rfl ?_
      refine h_iret rfl rfl (h_Kv ?_)
      refine h_pop (pc' := 619) rfl rfl rfl ?_
      refine h_aload_n (pc' := 620) rfl rfl rfl ?_
      refine h_aload_n (pc' := 621) rfl rfl rfl ?_
      refine h_iload_n (pc' := 622) rfl rfl rfl ?_
      refine h_iconst (pc' := 623) (x := (Int32.ofInt 1)) rfl rfl rfl ?_
      refine h_iadd (pc' := 624) rfl rfl hy3 ci_1 rfl (by omega) (by omega) (fun z10 hz10 => ?_)
      refine h_iald (pc' := 625) (v := s0 0 (b3 + 1)) rfl rfl rfl hz10 (by omega) (by omega) rfl (fun z11 hz11 => ?_)
      have tz11 := h_rgv hz11
      refine h_aload_n (pc' := 626) rfl rfl rfl ?_
      refine h_iload_n (pc' := 627) rfl rfl rfl ?_
      refine h_iconst (pc' := 628) (x := (Int32.ofInt 2)) rfl rfl rfl ?_
      refine h_iadd (pc' := 629) rfl rfl hy3 ci_2 rfl (by omega) (by omega) (fun z12 hz12 => ?_)
      refine h_iald (pc' := 630) (v := s0 0 (b3 + 2)) rfl rfl rfl hz12 (by omega) (by omega) rfl (fun z13 hz13 => ?_)
      have tz13 := h_rgv hz13
      have qz11 : z11 = (Int32.ofInt 0) := h_lit (show z11.toInt = 0 by omega) ci_0
      subst qz11
      refine h_call (sp := false) (pc' := 633) (M := [(0, .ref 98), (1, .int (Int32.ofInt 0)), (2, .int z13)]) rfl rfl rfl rfl rfl rfl rfl rfl ?_
      refine n_undo0 _ I0  z13 _ hz13 (fun r14 br14 hr14 s15 Is15 Gs15 tr14 ps15_0 => h_Kv ?_)
      have Zs15 : ∀ i, s15 0 i = s0 0 i := fun i => (Gs15 0 i rfl).trans rfl
      have Fs15 : h_F (fun _ _ => true) s15 s0 := fun _ _ h => by cases h
      have es15_0 : s15 64 1 = s0 64 1 := (Gs15 64 1 rfl).trans rfl
      have es15_1 : s15 98 11 = s0 98 11 := (Gs15 98 11 rfl).trans rfl
      have es15_2 : s15 64 4 = s0 64 4 := (Gs15 64 4 rfl).trans rfl
      have es15_3 : s15 98 16 = s0 98 16 := (Gs15 98 16 rfl).trans rfl
      have es15_4 : s15 63 2 = s0 63 2 := (Gs15 63 2 rfl).trans rfl
      have es15_5 : s15 10 8 = s0 10 8 := (Gs15 10 8 rfl).trans rfl
      have es15_6 : s15 98 1 = s0 98 1 := (Gs15 98 1 rfl).trans rfl
      have es15_7 : s15 10 9 = s0 10 9 := (Gs15 10 9 rfl).trans rfl
      have es15_8 : s15 98 2 = s0 98 2 := (Gs15 98 2 rfl).trans rfl
      have es15_9 : s15 10 10 = s0 10 10 := (Gs15 10 10 rfl).trans rfl
      have es15_10 : s15 99 43 = s0 99 43 := (Gs15 99 43 rfl).trans rfl
      have es15_11 : s15 13 2 = s0 13 2 := (Gs15 13 2 rfl).trans rfl
      have es15_13 : s15 16 2 = s0 16 2 := (Gs15 16 2 rfl).trans rfl
      have es15_14 : s15 99 25 = s0 99 25 := (Gs15 99 25 rfl).trans rfl
      have es15_15 : s15 62 0 = s0 62 0 := (Gs15 62 0 rfl).trans rfl
      have es15_16 : s15 110 0 = s0 110 0 := (Gs15 110 0 rfl).trans rfl
      have es15_17 : s15 62 1 = s0 62 1 := (Gs15 62 1 rfl).trans rfl
      have es15_18 : s15 110 1 = s0 110 1 := (Gs15 110 1 rfl).trans rfl
      refine h_pop (pc' := 634) rfl rfl rfl ?_
      refine h_goto (pc' := 1441) rfl rfl ?_
      exact kk _ Is15 (by first | exact d_tape.le j0 (Int.le_antisymm (by omega) (by omega)) (by omega) (fun j => (Gs15 65 j rfl)) (fun j => (Gs15 102 j rfl)) | (exfalso; omega)) (Int.le_antisymm (by omega) (by omega)) (by rcases ps15_0 with q | q; (exact c_R.pag j2 I0 Gs15 (c_pg.all (fun j _ _ => q.2.2 _)) rfl); (exfalso; omega))
    · refine h_iload_n (pc' := 5) rfl rfl rfl ?_
      refine h_aload_n (pc' := 6) rfl rfl rfl ?_
      refine h_getI (pc' := 9) (v := s0 13 2) rfl rfl rfl rfl rfl rfl (fun z16 hz16 => ?_)
      have tz16 := tf_13_2 I0
      refine h_cge (tg := 16) (pc' := 12) rfl rfl rfl hz4 hz16 (fun c17 => ?_) (fun c17 => ?_)
      · refine h_iconst (pc' := 17) (x := (Int32.ofInt 0)) rfl rfl rfl ?_
        refine h_zret rfl rfl ci_0 (by omega) (h_Kv ?_)
        refine h_zne (tg := 28) (pc' := 26) rfl rfl rfl ci_0 (fun c18 => absurd (Int.le_antisymm (by omega) (by omega)) c18) (fun c18 => ?_)
        refine h_iconst (pc' := 27) (x := (Int32.ofInt (-1))) rfl rfl rfl ?_
        refine h_iret rfl rfl (h_Kv ?_)
        refine h_pop (pc' := 619) rfl rfl rfl ?_
        refine h_aload_n (pc' := 620) rfl rfl rfl ?_
        refine h_aload_n (pc' := 621) rfl rfl rfl ?_
        refine h_iload_n (pc' := 622) rfl rfl rfl ?_
        refine h_iconst (pc' := 623) (x := (Int32.ofInt 1)) rfl rfl rfl ?_
        refine h_iadd (pc' := 624) rfl rfl hy3 ci_1 rfl (by omega) (by omega) (fun z19 hz19 => ?_)
        refine h_iald (pc' := 625) (v := s0 0 (b3 + 1)) rfl rfl rfl hz19 (by omega) (by omega) rfl (fun z20 hz20 => ?_)
        have tz20 := h_rgv hz20
        refine h_aload_n (pc' := 626) rfl rfl rfl ?_
        refine h_iload_n (pc' := 627) rfl rfl rfl ?_
        refine h_iconst (pc' := 628) (x := (Int32.ofInt 2)) rfl rfl rfl ?_
        refine h_iadd (pc' := 629) rfl rfl hy3 ci_2 rfl (by omega) (by omega) (fun z21 hz21 => ?_)
        refine h_iald (pc' := 630) (v := s0 0 (b3 + 2)) rfl rfl rfl hz21 (by omega) (by omega) rfl (fun z22 hz22 => ?_)
        have tz22 := h_rgv hz22
        have qz20 : z20 = (Int32.ofInt 0) := h_lit (show z20.toInt = 0 by omega) ci_0
        subst qz20
        refine h_call (sp := false) (pc' := 633) (M := [(0, .ref 98), (1, .int (Int32.ofInt 0)), (2, .int z22)]) rfl rfl rfl rfl rfl rfl rfl rfl ?_
        refine n_undo0 _ I0  z22 _ hz22 (fun r23 br23 hr23 s24 Is24 Gs24 tr23 ps24_0 => h_Kv ?_)
        have Zs24 : ∀ i, s24 0 i = s0 0 i := fun i => (Gs24 0 i rfl).trans rfl
        have Fs24 : h_F (fun _ _ => true) s24 s0 := fun _ _ h => by cases h
        have es24_0 : s24 64 1 = s0 64 1 := (Gs24 64 1 rfl).trans rfl
        have es24_1 : s24 98 11 = s0 98 11 := (Gs24 98 11 rfl).trans rfl
        have es24_2 : s24 64 4 = s0 64 4 := (Gs24 64 4 rfl).trans rfl
        have es24_3 : s24 98 16 = s0 98 16 := (Gs24 98 16 rfl).trans rfl
        have es24_4 : s24 63 2 = s0 63 2 := (Gs24 63 2 rfl).trans rfl
        have es24_5 : s24 10 8 = s0 10 8 := (Gs24 10 8 rfl).trans rfl
        have es24_6 : s24 98 1 = s0 98 1 := (Gs24 98 1 rfl).trans rfl
        have es24_7 : s24 10 9 = s0 10 9 := (Gs24 10 9 rfl).trans rfl
        have es24_8 : s24 98 2 = s0 98 2 := (Gs24 98 2 rfl).trans rfl
        have es24_9 : s24 10 10 = s0 10 10 := (Gs24 10 10 rfl).trans rfl
        have es24_10 : s24 99 43 = s0 99 43 := (Gs24 99 43 rfl).trans rfl
        have es24_11 : s24 13 2 = s0 13 2 := (Gs24 13 2 rfl).trans rfl
        have es24_13 : s24 16 2 = s0 16 2 := (Gs24 16 2 rfl).trans rfl
        have es24_14 : s24 99 25 = s0 99 25 := (Gs24 99 25 rfl).trans rfl
        have es24_15 : s24 62 0 = s0 62 0 := (Gs24 62 0 rfl).trans rfl
        have es24_16 : s24 110 0 = s0 110 0 := (Gs24 110 0 rfl).trans rfl
        have es24_17 : s24 62 1 = s0 62 1 := (Gs24 62 1 rfl).trans rfl
        have es24_18 : s24 110 1 = s0 110 1 := (Gs24 110 1 rfl).trans rfl
        refine h_pop (pc' := 634) rfl rfl rfl ?_
        refine h_goto (pc' := 1441) rfl rfl ?_
        exact kk _ Is24 (by first | exact d_tape.le j0 (Int.le_antisymm (by omega) (by omega)) (by omega) (fun j => (Gs24 65 j rfl)) (fun j => (Gs24 102 j rfl)) | (exfalso; omega)) (Int.le_antisymm (by omega) (by omega)) (by rcases ps24_0 with q | q; (exact c_R.pag j2 I0 Gs24 (c_pg.all (fun j _ _ => q.2.2 _)) rfl); (exfalso; omega))
      · refine h_iconst (pc' := 13) (x := (Int32.ofInt 1)) rfl rfl rfl ?_
        refine h_goto (pc' := 17) rfl rfl ?_
        refine h_zret rfl rfl ci_1 (by omega) (h_Kv ?_)
        refine h_zne (tg := 28) (pc' := 26) rfl rfl rfl ci_1 (fun c25 => ?_) (fun c25 => absurd c25 (by omega))
        refine h_aload_n (pc' := 29) rfl rfl rfl ?_
        refine h_iload_n (pc' := 30) rfl rfl rfl ?_
        refine h_call (sp := false) (pc' := 33) (M := [(0, .ref 13), (1, .int z4)]) rfl rfl rfl rfl rfl rfl rfl rfl ?_
        refine n_drop13 _ I0 z4 _ hz4 (by omega) (by omega) (fun s27 Is27 Gs27 ps27_0 ps27_1 ps27_2 => h_Kn ?_)
        have Zs27 : ∀ i, s27 0 i = s0 0 i := fun i => (Gs27 0 i rfl).trans rfl
        have Fs27 : h_F (fun _ _ => true) s27 s0 := fun _ _ h => by cases h
        have es27_0 : s27 64 1 = s0 64 1 := (Gs27 64 1 rfl).trans rfl
        have es27_1 : s27 98 11 = s0 98 11 := (Gs27 98 11 rfl).trans rfl
        have es27_2 : s27 64 4 = s0 64 4 := (Gs27 64 4 rfl).trans rfl
        have es27_3 : s27 98 16 = s0 98 16 := (Gs27 98 16 rfl).trans rfl
        have es27_4 : s27 63 2 = s0 63 2 := (Gs27 63 2 rfl).trans rfl
        have es27_5 : s27 10 8 = s0 10 8 := (Gs27 10 8 rfl).trans rfl
        have es27_6 : s27 98 1 = s0 98 1 := (Gs27 98 1 rfl).trans rfl
        have es27_7 : s27 10 9 = s0 10 9 := (Gs27 10 9 rfl).trans rfl
        have es27_8 : s27 98 2 = s0 98 2 := (Gs27 98 2 rfl).trans rfl
        have es27_9 : s27 10 10 = s0 10 10 := (Gs27 10 10 rfl).trans rfl
        have es27_10 : s27 99 43 = s0 99 43 := (Gs27 99 43 rfl).trans rfl
        have es27_12 : s27 99 18 = s0 99 18 := (Gs27 99 18 rfl).trans rfl
        have es27_13 : s27 16 2 = s0 16 2 := (Gs27 16 2 rfl).trans rfl
        have es27_14 : s27 99 25 = s0 99 25 := (Gs27 99 25 rfl).trans rfl
        have es27_15 : s27 62 0 = s0 62 0 := (Gs27 62 0 rfl).trans rfl
        have es27_16 : s27 110 0 = s0 110 0 := (Gs27 110 0 rfl).trans rfl
        have es27_17 : s27 62 1 = s0 62 1 := (Gs27 62 1 rfl).trans rfl
        have es27_18 : s27 110 1 = s0 110 1 := (Gs27 110 1 rfl).trans rfl
        refine h_aload_n (pc' := 34) rfl rfl rfl ?_
        refine h_getI (pc' := 37) (v := s27 13 2) rfl rfl rfl rfl rfl rfl (fun z28 hz28 => ?_)
        have tz28 := tf_13_2 Is27
        refine h_iret rfl rfl (h_Kv ?_)
        refine h_pop (pc' := 619) rfl rfl rfl ?_
        refine h_aload_n (pc' := 620) rfl rfl rfl ?_
        refine h_aload_n (pc' := 621) rfl rfl rfl ?_
        refine h_iload_n (pc' := 622) rfl rfl rfl ?_
        refine h_iconst (pc' := 623) (x := (Int32.ofInt 1)) rfl rfl rfl ?_
        refine h_iadd (pc' := 624) rfl rfl hy3 ci_1 rfl (by omega) (by omega) (fun z29 hz29 => ?_)
        refine h_iald (pc' := 625) (v := s0 0 (b3 + 1)) rfl rfl rfl hz29 (by omega) (by omega) (Zs27 _) (fun z30 hz30 => ?_)
        have tz30 := h_rgv hz30
        refine h_aload_n (pc' := 626) rfl rfl rfl ?_
        refine h_iload_n (pc' := 627) rfl rfl rfl ?_
        refine h_iconst (pc' := 628) (x := (Int32.ofInt 2)) rfl rfl rfl ?_
        refine h_iadd (pc' := 629) rfl rfl hy3 ci_2 rfl (by omega) (by omega) (fun z31 hz31 => ?_)
        refine h_iald (pc' := 630) (v := s0 0 (b3 + 2)) rfl rfl rfl hz31 (by omega) (by omega) (Zs27 _) (fun z32 hz32 => ?_)
        have tz32 := h_rgv hz32
        have qz30 : z30 = (Int32.ofInt 0) := h_lit (show z30.toInt = 0 by omega) ci_0
        subst qz30
        refine h_call (sp := false) (pc' := 633) (M := [(0, .ref 98), (1, .int (Int32.ofInt 0)), (2, .int z32)]) rfl rfl rfl rfl rfl rfl rfl rfl ?_
        refine n_undo0 _ Is27  z32 _ hz32 (fun r33 br33 hr33 s34 Is34 Gs34 tr33 ps34_0 => h_Kv ?_)
        have Zs34 : ∀ i, s34 0 i = s0 0 i := fun i => (Gs34 0 i rfl).trans (Zs27 i)
        have Fs34 : h_F (fun _ _ => true) s34 s0 := fun _ _ h => by cases h
        have es34_0 : s34 64 1 = s0 64 1 := (Gs34 64 1 rfl).trans es27_0
        have es34_1 : s34 98 11 = s0 98 11 := (Gs34 98 11 rfl).trans es27_1
        have es34_2 : s34 64 4 = s0 64 4 := (Gs34 64 4 rfl).trans es27_2
        have es34_3 : s34 98 16 = s0 98 16 := (Gs34 98 16 rfl).trans es27_3
        have es34_4 : s34 63 2 = s0 63 2 := (Gs34 63 2 rfl).trans es27_4
        have es34_5 : s34 10 8 = s0 10 8 := (Gs34 10 8 rfl).trans es27_5
        have es34_6 : s34 98 1 = s0 98 1 := (Gs34 98 1 rfl).trans es27_6
        have es34_7 : s34 10 9 = s0 10 9 := (Gs34 10 9 rfl).trans es27_7
        have es34_8 : s34 98 2 = s0 98 2 := (Gs34 98 2 rfl).trans es27_8
        have es34_9 : s34 10 10 = s0 10 10 := (Gs34 10 10 rfl).trans es27_9
        have es34_10 : s34 99 43 = s0 99 43 := (Gs34 99 43 rfl).trans es27_10
        have es34_11 : s34 13 2 = s27 13 2 := (Gs34 13 2 rfl).trans rfl
        have es34_13 : s34 16 2 = s0 16 2 := (Gs34 16 2 rfl).trans es27_13
        have es34_14 : s34 99 25 = s0 99 25 := (Gs34 99 25 rfl).trans es27_14
        have es34_15 : s34 62 0 = s0 62 0 := (Gs34 62 0 rfl).trans es27_15
        have es34_16 : s34 110 0 = s0 110 0 := (Gs34 110 0 rfl).trans es27_16
        have es34_17 : s34 62 1 = s0 62 1 := (Gs34 62 1 rfl).trans es27_17
        have es34_18 : s34 110 1 = s0 110 1 := (Gs34 110 1 rfl).trans es27_18
        refine h_pop (pc' := 634) rfl rfl rfl ?_
        refine h_goto (pc' := 1441) rfl rfl ?_
        exact kk _ Is34 (by first | exact d_tape.le j0 (Int.le_antisymm (by omega) (by omega)) (by omega) (fun j => (Gs34 65 j rfl).trans ((Gs27 65 j rfl))) (fun j => (Gs34 102 j rfl).trans ((Gs27 102 j rfl))) | (exfalso; omega)) (Int.le_antisymm (by omega) (by omega)) (by rcases ps34_0 with q | q; (exfalso; omega); (exact c_R.und13 j2 I0 (by omega) (by omega) ((Gs34 13 2 rfl).trans ps27_0) (fun j => (Gs34 14 j rfl).trans (ps27_1 j)) (fun j => (Gs34 15 j rfl).trans (ps27_2 j)) (fun j => (h_undf (fun i => Gs27 99 i rfl) q.2.2.2) j) ((Gs34 10 8 rfl).trans (Gs27 10 8 rfl)) ((Gs34 10 9 rfl).trans (Gs27 10 9 rfl)) ((Gs34 10 10 rfl).trans (Gs27 10 10 rfl)) ((Gs34 16 2 rfl).trans (Gs27 16 2 rfl)) (fun j => (Gs34 11 j rfl).trans (Gs27 11 j rfl)) (fun j => (Gs34 12 j rfl).trans (Gs27 12 j rfl)) (fun j => (Gs34 17 j rfl).trans (Gs27 17 j rfl)) (fun j => (Gs34 18 j rfl).trans (Gs27 18 j rfl)) (fun j => (Gs34 19 j rfl).trans (Gs27 19 j rfl)) (fun j => (Gs34 20 j rfl).trans (Gs27 20 j rfl)) (fun j => (Gs34 21 j rfl).trans (Gs27 21 j rfl)) (fun j => (Gs34 22 j rfl).trans (Gs27 22 j rfl)) ((Gs34 98 1 rfl).trans (Gs27 98 1 rfl)) ((Gs34 98 2 rfl).trans (Gs27 98 2 rfl)) ((c_eq.fr (fl := false) Gs34 rfl).tr (c_eq.fr (fl := false) Gs27 rfl)) ((c_eq.fr (fl := false) Gs34 rfl).tr (c_eq.fr (fl := false) Gs27 rfl)) ((Gs34 62 0 rfl).trans (Gs27 62 0 rfl)) ((Gs34 62 1 rfl).trans (Gs27 62 1 rfl)) ((Gs34 110 0 rfl).trans (Gs27 110 0 rfl)) ((Gs34 110 1 rfl).trans (Gs27 110 1 rfl))))
  · refine h_iload_n (pc' := 5) rfl rfl rfl ?_
    refine h_iconst (pc' := 6) (x := (Int32.ofInt 1)) rfl rfl rfl ?_
    refine h_cne (tg := 13) (pc' := 9) rfl rfl rfl hz2 ci_1 (fun c35 => ?_) (fun c35 => ?_)
    · refine h_iconst (pc' := 14) (x := (Int32.ofInt 0)) rfl rfl rfl ?_
      refine h_zret rfl rfl ci_0 (by omega) (h_Kv ?_)
      refine h_zne (tg := 9) (pc' := 7) rfl rfl rfl ci_0 (fun c36 => absurd (Int.le_antisymm (by omega) (by omega)) c36) (fun c36 => ?_)
      refine h_iconst (pc' := 8) (x := (Int32.ofInt (-1))) rfl rfl rfl ?_
      refine h_iret rfl rfl (h_Kv ?_)
      refine h_pop (pc' := 619) rfl rfl rfl ?_
      refine h_aload_n (pc' := 620) rfl rfl rfl ?_
      refine h_aload_n (pc' := 621) rfl rfl rfl ?_
      refine h_iload_n (pc' := 622) rfl rfl rfl ?_
      refine h_iconst (pc' := 623) (x := (Int32.ofInt 1)) rfl rfl rfl ?_
      refine h_iadd (pc' := 624) rfl rfl hy3 ci_1 rfl (by omega) (by omega) (fun z37 hz37 => ?_)
      refine h_iald (pc' := 625) (v := s0 0 (b3 + 1)) rfl rfl rfl hz37 (by omega) (by omega) rfl (fun z38 hz38 => ?_)
      have tz38 := h_rgv hz38
      refine h_aload_n (pc' := 626) rfl rfl rfl ?_
      refine h_iload_n (pc' := 627) rfl rfl rfl ?_
      refine h_iconst (pc' := 628) (x := (Int32.ofInt 2)) rfl rfl rfl ?_
      refine h_iadd (pc' := 629) rfl rfl hy3 ci_2 rfl (by omega) (by omega) (fun z39 hz39 => ?_)
      refine h_iald (pc' := 630) (v := s0 0 (b3 + 2)) rfl rfl rfl hz39 (by omega) (by omega) rfl (fun z40 hz40 => ?_)
      have tz40 := h_rgv hz40
      rcases (show ((s0 0 (b3 + 1)) ≤ (-1)) ∨ (2 ≤ (s0 0 (b3 + 1))) ∨ ((s0 0 (b3 + 1)) = 0) ∨ ((s0 0 (b3 + 1)) = 1) by omega) with c41 | c41 | c41 | c41
      · refine h_call (sp := false) (pc' := 633) (M := [(0, .ref 98), (1, .int z38), (2, .int z40)]) rfl rfl rfl rfl rfl rfl rfl rfl ?_
        refine w_undo_n _ I0 z38 _ hz38 (by omega) z40 _ hz40 (fun r42 br42 hr42 s43 Is43 Gs43 tr42 => h_Kv ?_)
        have Zs43 : ∀ i, s43 0 i = s0 0 i := fun i => (Gs43 0 i rfl).trans rfl
        have Fs43 : h_F (fun _ _ => true) s43 s0 := fun _ _ h => by cases h
        have es43_0 : s43 64 1 = s0 64 1 := (Gs43 64 1 rfl).trans rfl
        have es43_1 : s43 98 11 = s0 98 11 := (Gs43 98 11 rfl).trans rfl
        have es43_2 : s43 64 4 = s0 64 4 := (Gs43 64 4 rfl).trans rfl
        have es43_3 : s43 98 16 = s0 98 16 := (Gs43 98 16 rfl).trans rfl
        have es43_4 : s43 63 2 = s0 63 2 := (Gs43 63 2 rfl).trans rfl
        have es43_5 : s43 10 8 = s0 10 8 := (Gs43 10 8 rfl).trans rfl
        have es43_6 : s43 98 1 = s0 98 1 := (Gs43 98 1 rfl).trans rfl
        have es43_7 : s43 10 9 = s0 10 9 := (Gs43 10 9 rfl).trans rfl
        have es43_8 : s43 98 2 = s0 98 2 := (Gs43 98 2 rfl).trans rfl
        have es43_9 : s43 10 10 = s0 10 10 := (Gs43 10 10 rfl).trans rfl
        have es43_10 : s43 99 43 = s0 99 43 := (Gs43 99 43 rfl).trans rfl
        have es43_11 : s43 13 2 = s0 13 2 := (Gs43 13 2 rfl).trans rfl
        have es43_12 : s43 99 18 = s0 99 18 := (Gs43 99 18 rfl).trans rfl
        have es43_13 : s43 16 2 = s0 16 2 := (Gs43 16 2 rfl).trans rfl
        have es43_14 : s43 99 25 = s0 99 25 := (Gs43 99 25 rfl).trans rfl
        have es43_15 : s43 62 0 = s0 62 0 := (Gs43 62 0 rfl).trans rfl
        have es43_16 : s43 110 0 = s0 110 0 := (Gs43 110 0 rfl).trans rfl
        have es43_17 : s43 62 1 = s0 62 1 := (Gs43 62 1 rfl).trans rfl
        have es43_18 : s43 110 1 = s0 110 1 := (Gs43 110 1 rfl).trans rfl
        refine h_pop (pc' := 634) rfl rfl rfl ?_
        refine h_goto (pc' := 1441) rfl rfl ?_
        exact kk _ Is43 (by first | exact d_tape.le j0 (Int.le_antisymm (by omega) (by omega)) (by omega) (fun j => (Gs43 65 j rfl)) (fun j => (Gs43 102 j rfl)) | (exfalso; omega)) (Int.le_antisymm (by omega) (by omega)) (c_R.fr j2 I0 Gs43 rfl)
      · refine h_call (sp := false) (pc' := 633) (M := [(0, .ref 98), (1, .int z38), (2, .int z40)]) rfl rfl rfl rfl rfl rfl rfl rfl ?_
        refine w_undo_p _ I0 z38 _ hz38 (by omega) z40 _ hz40 (fun r44 br44 hr44 s45 Is45 Gs45 tr44 => h_Kv ?_)
        have Zs45 : ∀ i, s45 0 i = s0 0 i := fun i => (Gs45 0 i rfl).trans rfl
        have Fs45 : h_F (fun _ _ => true) s45 s0 := fun _ _ h => by cases h
        have es45_0 : s45 64 1 = s0 64 1 := (Gs45 64 1 rfl).trans rfl
        have es45_1 : s45 98 11 = s0 98 11 := (Gs45 98 11 rfl).trans rfl
        have es45_2 : s45 64 4 = s0 64 4 := (Gs45 64 4 rfl).trans rfl
        have es45_3 : s45 98 16 = s0 98 16 := (Gs45 98 16 rfl).trans rfl
        have es45_4 : s45 63 2 = s0 63 2 := (Gs45 63 2 rfl).trans rfl
        have es45_5 : s45 10 8 = s0 10 8 := (Gs45 10 8 rfl).trans rfl
        have es45_6 : s45 98 1 = s0 98 1 := (Gs45 98 1 rfl).trans rfl
        have es45_7 : s45 10 9 = s0 10 9 := (Gs45 10 9 rfl).trans rfl
        have es45_8 : s45 98 2 = s0 98 2 := (Gs45 98 2 rfl).trans rfl
        have es45_9 : s45 10 10 = s0 10 10 := (Gs45 10 10 rfl).trans rfl
        have es45_10 : s45 99 43 = s0 99 43 := (Gs45 99 43 rfl).trans rfl
        have es45_11 : s45 13 2 = s0 13 2 := (Gs45 13 2 rfl).trans rfl
        have es45_12 : s45 99 18 = s0 99 18 := (Gs45 99 18 rfl).trans rfl
        have es45_13 : s45 16 2 = s0 16 2 := (Gs45 16 2 rfl).trans rfl
        have es45_14 : s45 99 25 = s0 99 25 := (Gs45 99 25 rfl).trans rfl
        have es45_15 : s45 62 0 = s0 62 0 := (Gs45 62 0 rfl).trans rfl
        have es45_16 : s45 110 0 = s0 110 0 := (Gs45 110 0 rfl).trans rfl
        have es45_17 : s45 62 1 = s0 62 1 := (Gs45 62 1 rfl).trans rfl
        have es45_18 : s45 110 1 = s0 110 1 := (Gs45 110 1 rfl).trans rfl
        refine h_pop (pc' := 634) rfl rfl rfl ?_
        refine h_goto (pc' := 1441) rfl rfl ?_
        exact kk _ Is45 (by first | exact d_tape.le j0 (Int.le_antisymm (by omega) (by omega)) (by omega) (fun j => (Gs45 65 j rfl)) (fun j => (Gs45 102 j rfl)) | (exfalso; omega)) (Int.le_antisymm (by omega) (by omega)) (c_R.fr j2 I0 Gs45 rfl)
      · have qz38 : z38 = (Int32.ofInt 0) := h_lit (show z38.toInt = 0 by omega) ci_0
        subst qz38
        refine h_call (sp := false) (pc' := 633) (M := [(0, .ref 98), (1, .int (Int32.ofInt 0)), (2, .int z40)]) rfl rfl rfl rfl rfl rfl rfl rfl ?_
        refine n_undo0 _ I0  z40 _ hz40 (fun r46 br46 hr46 s47 Is47 Gs47 tr46 ps47_0 => h_Kv ?_)
        have Zs47 : ∀ i, s47 0 i = s0 0 i := fun i => (Gs47 0 i rfl).trans rfl
        have Fs47 : h_F (fun _ _ => true) s47 s0 := fun _ _ h => by cases h
        have es47_0 : s47 64 1 = s0 64 1 := (Gs47 64 1 rfl).trans rfl
        have es47_1 : s47 98 11 = s0 98 11 := (Gs47 98 11 rfl).trans rfl
        have es47_2 : s47 64 4 = s0 64 4 := (Gs47 64 4 rfl).trans rfl
        have es47_3 : s47 98 16 = s0 98 16 := (Gs47 98 16 rfl).trans rfl
        have es47_4 : s47 63 2 = s0 63 2 := (Gs47 63 2 rfl).trans rfl
        have es47_5 : s47 10 8 = s0 10 8 := (Gs47 10 8 rfl).trans rfl
        have es47_6 : s47 98 1 = s0 98 1 := (Gs47 98 1 rfl).trans rfl
        have es47_7 : s47 10 9 = s0 10 9 := (Gs47 10 9 rfl).trans rfl
        have es47_8 : s47 98 2 = s0 98 2 := (Gs47 98 2 rfl).trans rfl
        have es47_9 : s47 10 10 = s0 10 10 := (Gs47 10 10 rfl).trans rfl
        have es47_10 : s47 99 43 = s0 99 43 := (Gs47 99 43 rfl).trans rfl
        have es47_11 : s47 13 2 = s0 13 2 := (Gs47 13 2 rfl).trans rfl
        have es47_13 : s47 16 2 = s0 16 2 := (Gs47 16 2 rfl).trans rfl
        have es47_14 : s47 99 25 = s0 99 25 := (Gs47 99 25 rfl).trans rfl
        have es47_15 : s47 62 0 = s0 62 0 := (Gs47 62 0 rfl).trans rfl
        have es47_16 : s47 110 0 = s0 110 0 := (Gs47 110 0 rfl).trans rfl
        have es47_17 : s47 62 1 = s0 62 1 := (Gs47 62 1 rfl).trans rfl
        have es47_18 : s47 110 1 = s0 110 1 := (Gs47 110 1 rfl).trans rfl
        refine h_pop (pc' := 634) rfl rfl rfl ?_
        refine h_goto (pc' := 1441) rfl rfl ?_
        exact kk _ Is47 (by first | exact d_tape.le j0 (Int.le_antisymm (by omega) (by omega)) (by omega) (fun j => (Gs47 65 j rfl)) (fun j => (Gs47 102 j rfl)) | (exfalso; omega)) (Int.le_antisymm (by omega) (by omega)) (by rcases ps47_0 with q | q; (exact c_R.pag j2 I0 Gs47 (c_pg.all (fun j _ _ => q.2.2 _)) rfl); (exfalso; omega))
      · have qz38 : z38 = (Int32.ofInt 1) := h_lit (show z38.toInt = 1 by omega) ci_1
        subst qz38
        refine h_call (sp := false) (pc' := 633) (M := [(0, .ref 98), (1, .int (Int32.ofInt 1)), (2, .int z40)]) rfl rfl rfl rfl rfl rfl rfl rfl ?_
        refine n_undo1 _ I0  z40 _ hz40 (fun r48 br48 hr48 s49 Is49 Gs49 tr48 ps49_0 => h_Kv ?_)
        have Zs49 : ∀ i, s49 0 i = s0 0 i := fun i => (Gs49 0 i rfl).trans rfl
        have Fs49 : h_F (fun _ _ => true) s49 s0 := fun _ _ h => by cases h
        have es49_0 : s49 64 1 = s0 64 1 := (Gs49 64 1 rfl).trans rfl
        have es49_1 : s49 98 11 = s0 98 11 := (Gs49 98 11 rfl).trans rfl
        have es49_2 : s49 64 4 = s0 64 4 := (Gs49 64 4 rfl).trans rfl
        have es49_3 : s49 98 16 = s0 98 16 := (Gs49 98 16 rfl).trans rfl
        have es49_4 : s49 63 2 = s0 63 2 := (Gs49 63 2 rfl).trans rfl
        have es49_5 : s49 10 8 = s0 10 8 := (Gs49 10 8 rfl).trans rfl
        have es49_6 : s49 98 1 = s0 98 1 := (Gs49 98 1 rfl).trans rfl
        have es49_7 : s49 10 9 = s0 10 9 := (Gs49 10 9 rfl).trans rfl
        have es49_8 : s49 98 2 = s0 98 2 := (Gs49 98 2 rfl).trans rfl
        have es49_9 : s49 10 10 = s0 10 10 := (Gs49 10 10 rfl).trans rfl
        have es49_10 : s49 99 43 = s0 99 43 := (Gs49 99 43 rfl).trans rfl
        have es49_11 : s49 13 2 = s0 13 2 := (Gs49 13 2 rfl).trans rfl
        have es49_12 : s49 99 18 = s0 99 18 := (Gs49 99 18 rfl).trans rfl
        have es49_13 : s49 16 2 = s0 16 2 := (Gs49 16 2 rfl).trans rfl
        have es49_15 : s49 62 0 = s0 62 0 := (Gs49 62 0 rfl).trans rfl
        have es49_16 : s49 110 0 = s0 110 0 := (Gs49 110 0 rfl).trans rfl
        have es49_17 : s49 62 1 = s0 62 1 := (Gs49 62 1 rfl).trans rfl
        have es49_18 : s49 110 1 = s0 110 1 := (Gs49 110 1 rfl).trans rfl
        refine h_pop (pc' := 634) rfl rfl rfl ?_
        refine h_goto (pc' := 1441) rfl rfl ?_
        exact kk _ Is49 (by first | exact d_tape.le j0 (Int.le_antisymm (by omega) (by omega)) (by omega) (fun j => (Gs49 65 j rfl)) (fun j => (Gs49 102 j rfl)) | (exfalso; omega)) (Int.le_antisymm (by omega) (by omega)) (by rcases ps49_0 with q | q; (exact c_R.pag j2 I0 Gs49 (c_pg.all (fun j _ _ => q.2.2 _)) rfl); (exfalso; omega))
    · refine h_iconst (pc' := 10) (x := (Int32.ofInt 1)) rfl rfl rfl ?_
      refine h_goto (pc' := 14) rfl rfl ?_
      refine h_zret rfl rfl ci_1 (by omega) (h_Kv ?_)
      refine h_zne (tg := 9) (pc' := 7) rfl rfl rfl ci_1 (fun c50 => ?_) (fun c50 => absurd c50 (by omega))
      refine h_aload_n (pc' := 10) rfl rfl rfl ?_
      refine h_getR (pc' := 13) rfl rfl rfl rfl rfl ?_
      refine h_iload_n (pc' := 14) rfl rfl rfl ?_
      refine h_call (sp := false) (pc' := 17) (M := [(0, .ref 10), (1, .int z2)]) rfl rfl rfl rfl rfl rfl rfl rfl ?_
      refine h_iload_n (pc' := 1) rfl rfl rfl ?_
      refine h_zne (tg := 11) (pc' := 4) rfl rfl rfl hz2 (fun c51 => ?_) (fun c51 => absurd c51 (by omega))
      refine h_aload_n (pc' := 12) rfl rfl rfl ?_
      refine h_getR (pc' := 15) rfl rfl rfl rfl rfl ?_
      refine h_aret rfl rfl (h_Kv ?_)
      refine h_astore_n (pc' := 18) (M := [(3, .ref 16), (0, .ref 9), (1, .int z2), (2, .int z4)]) rfl rfl rfl rfl ?_
      refine h_aload_n (pc' := 19) rfl rfl rfl ?_
      refine h_iload_n (pc' := 20) rfl rfl rfl ?_
      refine h_call (sp := false) (pc' := 23) (M := [(0, .ref 16), (1, .int z4)]) rfl rfl rfl rfl rfl rfl rfl rfl ?_
      refine h_iload_n (pc' := 1) rfl rfl rfl ?_
      refine h_zlt (tg := 16) (pc' := 4) rfl rfl rfl hz4 (fun c52 => ?_) (fun c52 => ?_)
      · refine h_iconst (pc' := 17) (x := (Int32.ofInt 0)) rfl rfl rfl ?_
        refine h_zret rfl rfl ci_0 (by omega) (h_Kv ?_)
        refine h_zne (tg := 28) (pc' := 26) rfl rfl rfl ci_0 (fun c53 => absurd (Int.le_antisymm (by omega) (by omega)) c53) (fun c53 => ?_)
        refine h_iconst (pc' := 27) (x := (Int32.ofInt (-1))) rfl rfl rfl ?_
        refine h_iret rfl rfl (h_Kv ?_)
        refine h_pop (pc' := 619) rfl rfl rfl ?_
        refine h_aload_n (pc' := 620) rfl rfl rfl ?_
        refine h_aload_n (pc' := 621) rfl rfl rfl ?_
        refine h_iload_n (pc' := 622) rfl rfl rfl ?_
        refine h_iconst (pc' := 623) (x := (Int32.ofInt 1)) rfl rfl rfl ?_
        refine h_iadd (pc' := 624) rfl rfl hy3 ci_1 rfl (by omega) (by omega) (fun z54 hz54 => ?_)
        refine h_iald (pc' := 625) (v := s0 0 (b3 + 1)) rfl rfl rfl hz54 (by omega) (by omega) rfl (fun z55 hz55 => ?_)
        have tz55 := h_rgv hz55
        refine h_aload_n (pc' := 626) rfl rfl rfl ?_
        refine h_iload_n (pc' := 627) rfl rfl rfl ?_
        refine h_iconst (pc' := 628) (x := (Int32.ofInt 2)) rfl rfl rfl ?_
        refine h_iadd (pc' := 629) rfl rfl hy3 ci_2 rfl (by omega) (by omega) (fun z56 hz56 => ?_)
        refine h_iald (pc' := 630) (v := s0 0 (b3 + 2)) rfl rfl rfl hz56 (by omega) (by omega) rfl (fun z57 hz57 => ?_)
        have tz57 := h_rgv hz57
        have qz55 : z55 = (Int32.ofInt 1) := h_lit (show z55.toInt = 1 by omega) ci_1
        subst qz55
        refine h_call (sp := false) (pc' := 633) (M := [(0, .ref 98), (1, .int (Int32.ofInt 1)), (2, .int z57)]) rfl rfl rfl rfl rfl rfl rfl rfl ?_
        refine n_undo1 _ I0  z57 _ hz57 (fun r58 br58 hr58 s59 Is59 Gs59 tr58 ps59_0 => h_Kv ?_)
        have Zs59 : ∀ i, s59 0 i = s0 0 i := fun i => (Gs59 0 i rfl).trans rfl
        have Fs59 : h_F (fun _ _ => true) s59 s0 := fun _ _ h => by cases h
        have es59_0 : s59 64 1 = s0 64 1 := (Gs59 64 1 rfl).trans rfl
        have es59_1 : s59 98 11 = s0 98 11 := (Gs59 98 11 rfl).trans rfl
        have es59_2 : s59 64 4 = s0 64 4 := (Gs59 64 4 rfl).trans rfl
        have es59_3 : s59 98 16 = s0 98 16 := (Gs59 98 16 rfl).trans rfl
        have es59_4 : s59 63 2 = s0 63 2 := (Gs59 63 2 rfl).trans rfl
        have es59_5 : s59 10 8 = s0 10 8 := (Gs59 10 8 rfl).trans rfl
        have es59_6 : s59 98 1 = s0 98 1 := (Gs59 98 1 rfl).trans rfl
        have es59_7 : s59 10 9 = s0 10 9 := (Gs59 10 9 rfl).trans rfl
        have es59_8 : s59 98 2 = s0 98 2 := (Gs59 98 2 rfl).trans rfl
        have es59_9 : s59 10 10 = s0 10 10 := (Gs59 10 10 rfl).trans rfl
        have es59_10 : s59 99 43 = s0 99 43 := (Gs59 99 43 rfl).trans rfl
        have es59_11 : s59 13 2 = s0 13 2 := (Gs59 13 2 rfl).trans rfl
        have es59_12 : s59 99 18 = s0 99 18 := (Gs59 99 18 rfl).trans rfl
        have es59_13 : s59 16 2 = s0 16 2 := (Gs59 16 2 rfl).trans rfl
        have es59_15 : s59 62 0 = s0 62 0 := (Gs59 62 0 rfl).trans rfl
        have es59_16 : s59 110 0 = s0 110 0 := (Gs59 110 0 rfl).trans rfl
        have es59_17 : s59 62 1 = s0 62 1 := (Gs59 62 1 rfl).trans rfl
        have es59_18 : s59 110 1 = s0 110 1 := (Gs59 110 1 rfl).trans rfl
        refine h_pop (pc' := 634) rfl rfl rfl ?_
        refine h_goto (pc' := 1441) rfl rfl ?_
        exact kk _ Is59 (by first | exact d_tape.le j0 (Int.le_antisymm (by omega) (by omega)) (by omega) (fun j => (Gs59 65 j rfl)) (fun j => (Gs59 102 j rfl)) | (exfalso; omega)) (Int.le_antisymm (by omega) (by omega)) (by rcases ps59_0 with q | q; (exact c_R.pag j2 I0 Gs59 (c_pg.all (fun j _ _ => q.2.2 _)) rfl); (exfalso; omega))
      · refine h_iload_n (pc' := 5) rfl rfl rfl ?_
        refine h_aload_n (pc' := 6) rfl rfl rfl ?_
        refine h_getI (pc' := 9) (v := s0 16 2) rfl rfl rfl rfl rfl rfl (fun z60 hz60 => ?_)
        have tz60 := tf_16_2 I0
        refine h_cge (tg := 16) (pc' := 12) rfl rfl rfl hz4 hz60 (fun c61 => ?_) (fun c61 => ?_)
        · refine h_iconst (pc' := 17) (x := (Int32.ofInt 0)) rfl rfl rfl ?_
          refine h_zret rfl rfl ci_0 (by omega) (h_Kv ?_)
          refine h_zne (tg := 28) (pc' := 26) rfl rfl rfl ci_0 (fun c62 => absurd (Int.le_antisymm (by omega) (by omega)) c62) (fun c62 => ?_)
          refine h_iconst (pc' := 27) (x := (Int32.ofInt (-1))) rfl rfl rfl ?_
          refine h_iret rfl rfl (h_Kv ?_)
          refine h_pop (pc' := 619) rfl rfl rfl ?_
          refine h_aload_n (pc' := 620) rfl rfl rfl ?_
          refine h_aload_n (pc' := 621) rfl rfl rfl ?_
          refine h_iload_n (pc' := 622) rfl rfl rfl ?_
          refine h_iconst (pc' := 623) (x := (Int32.ofInt 1)) rfl rfl rfl ?_
          refine h_iadd (pc' := 624) rfl rfl hy3 ci_1 rfl (by omega) (by omega) (fun z63 hz63 => ?_)
          refine h_iald (pc' := 625) (v := s0 0 (b3 + 1)) rfl rfl rfl hz63 (by omega) (by omega) rfl (fun z64 hz64 => ?_)
          have tz64 := h_rgv hz64
          refine h_aload_n (pc' := 626) rfl rfl rfl ?_
          refine h_iload_n (pc' := 627) rfl rfl rfl ?_
          refine h_iconst (pc' := 628) (x := (Int32.ofInt 2)) rfl rfl rfl ?_
          refine h_iadd (pc' := 629) rfl rfl hy3 ci_2 rfl (by omega) (by omega) (fun z65 hz65 => ?_)
          refine h_iald (pc' := 630) (v := s0 0 (b3 + 2)) rfl rfl rfl hz65 (by omega) (by omega) rfl (fun z66 hz66 => ?_)
          have tz66 := h_rgv hz66
          have qz64 : z64 = (Int32.ofInt 1) := h_lit (show z64.toInt = 1 by omega) ci_1
          subst qz64
          refine h_call (sp := false) (pc' := 633) (M := [(0, .ref 98), (1, .int (Int32.ofInt 1)), (2, .int z66)]) rfl rfl rfl rfl rfl rfl rfl rfl ?_
          refine n_undo1 _ I0  z66 _ hz66 (fun r67 br67 hr67 s68 Is68 Gs68 tr67 ps68_0 => h_Kv ?_)
          have Zs68 : ∀ i, s68 0 i = s0 0 i := fun i => (Gs68 0 i rfl).trans rfl
          have Fs68 : h_F (fun _ _ => true) s68 s0 := fun _ _ h => by cases h
          have es68_0 : s68 64 1 = s0 64 1 := (Gs68 64 1 rfl).trans rfl
          have es68_1 : s68 98 11 = s0 98 11 := (Gs68 98 11 rfl).trans rfl
          have es68_2 : s68 64 4 = s0 64 4 := (Gs68 64 4 rfl).trans rfl
          have es68_3 : s68 98 16 = s0 98 16 := (Gs68 98 16 rfl).trans rfl
          have es68_4 : s68 63 2 = s0 63 2 := (Gs68 63 2 rfl).trans rfl
          have es68_5 : s68 10 8 = s0 10 8 := (Gs68 10 8 rfl).trans rfl
          have es68_6 : s68 98 1 = s0 98 1 := (Gs68 98 1 rfl).trans rfl
          have es68_7 : s68 10 9 = s0 10 9 := (Gs68 10 9 rfl).trans rfl
          have es68_8 : s68 98 2 = s0 98 2 := (Gs68 98 2 rfl).trans rfl
          have es68_9 : s68 10 10 = s0 10 10 := (Gs68 10 10 rfl).trans rfl
          have es68_10 : s68 99 43 = s0 99 43 := (Gs68 99 43 rfl).trans rfl
          have es68_11 : s68 13 2 = s0 13 2 := (Gs68 13 2 rfl).trans rfl
          have es68_12 : s68 99 18 = s0 99 18 := (Gs68 99 18 rfl).trans rfl
          have es68_13 : s68 16 2 = s0 16 2 := (Gs68 16 2 rfl).trans rfl
          have es68_15 : s68 62 0 = s0 62 0 := (Gs68 62 0 rfl).trans rfl
          have es68_16 : s68 110 0 = s0 110 0 := (Gs68 110 0 rfl).trans rfl
          have es68_17 : s68 62 1 = s0 62 1 := (Gs68 62 1 rfl).trans rfl
          have es68_18 : s68 110 1 = s0 110 1 := (Gs68 110 1 rfl).trans rfl
          refine h_pop (pc' := 634) rfl rfl rfl ?_
          refine h_goto (pc' := 1441) rfl rfl ?_
          exact kk _ Is68 (by first | exact d_tape.le j0 (Int.le_antisymm (by omega) (by omega)) (by omega) (fun j => (Gs68 65 j rfl)) (fun j => (Gs68 102 j rfl)) | (exfalso; omega)) (Int.le_antisymm (by omega) (by omega)) (by rcases ps68_0 with q | q; (exact c_R.pag j2 I0 Gs68 (c_pg.all (fun j _ _ => q.2.2 _)) rfl); (exfalso; omega))
        · refine h_iconst (pc' := 13) (x := (Int32.ofInt 1)) rfl rfl rfl ?_
          refine h_goto (pc' := 17) rfl rfl ?_
          refine h_zret rfl rfl ci_1 (by omega) (h_Kv ?_)
          refine h_zne (tg := 28) (pc' := 26) rfl rfl rfl ci_1 (fun c69 => ?_) (fun c69 => absurd c69 (by omega))
          refine h_aload_n (pc' := 29) rfl rfl rfl ?_
          refine h_iload_n (pc' := 30) rfl rfl rfl ?_
          refine h_call (sp := false) (pc' := 33) (M := [(0, .ref 16), (1, .int z4)]) rfl rfl rfl rfl rfl rfl rfl rfl ?_
          refine n_drop16 _ I0 z4 _ hz4 (by omega) (by omega) (fun s71 Is71 Gs71 ps71_0 ps71_1 ps71_2 => h_Kn ?_)
          have Zs71 : ∀ i, s71 0 i = s0 0 i := fun i => (Gs71 0 i rfl).trans rfl
          have Fs71 : h_F (fun _ _ => true) s71 s0 := fun _ _ h => by cases h
          have es71_0 : s71 64 1 = s0 64 1 := (Gs71 64 1 rfl).trans rfl
          have es71_1 : s71 98 11 = s0 98 11 := (Gs71 98 11 rfl).trans rfl
          have es71_2 : s71 64 4 = s0 64 4 := (Gs71 64 4 rfl).trans rfl
          have es71_3 : s71 98 16 = s0 98 16 := (Gs71 98 16 rfl).trans rfl
          have es71_4 : s71 63 2 = s0 63 2 := (Gs71 63 2 rfl).trans rfl
          have es71_5 : s71 10 8 = s0 10 8 := (Gs71 10 8 rfl).trans rfl
          have es71_6 : s71 98 1 = s0 98 1 := (Gs71 98 1 rfl).trans rfl
          have es71_7 : s71 10 9 = s0 10 9 := (Gs71 10 9 rfl).trans rfl
          have es71_8 : s71 98 2 = s0 98 2 := (Gs71 98 2 rfl).trans rfl
          have es71_9 : s71 10 10 = s0 10 10 := (Gs71 10 10 rfl).trans rfl
          have es71_10 : s71 99 43 = s0 99 43 := (Gs71 99 43 rfl).trans rfl
          have es71_11 : s71 13 2 = s0 13 2 := (Gs71 13 2 rfl).trans rfl
          have es71_12 : s71 99 18 = s0 99 18 := (Gs71 99 18 rfl).trans rfl
          have es71_14 : s71 99 25 = s0 99 25 := (Gs71 99 25 rfl).trans rfl
          have es71_15 : s71 62 0 = s0 62 0 := (Gs71 62 0 rfl).trans rfl
          have es71_16 : s71 110 0 = s0 110 0 := (Gs71 110 0 rfl).trans rfl
          have es71_17 : s71 62 1 = s0 62 1 := (Gs71 62 1 rfl).trans rfl
          have es71_18 : s71 110 1 = s0 110 1 := (Gs71 110 1 rfl).trans rfl
          refine h_aload_n (pc' := 34) rfl rfl rfl ?_
          refine h_getI (pc' := 37) (v := s71 16 2) rfl rfl rfl rfl rfl rfl (fun z72 hz72 => ?_)
          have tz72 := tf_16_2 Is71
          refine h_iret rfl rfl (h_Kv ?_)
          refine h_pop (pc' := 619) rfl rfl rfl ?_
          refine h_aload_n (pc' := 620) rfl rfl rfl ?_
          refine h_aload_n (pc' := 621) rfl rfl rfl ?_
          refine h_iload_n (pc' := 622) rfl rfl rfl ?_
          refine h_iconst (pc' := 623) (x := (Int32.ofInt 1)) rfl rfl rfl ?_
          refine h_iadd (pc' := 624) rfl rfl hy3 ci_1 rfl (by omega) (by omega) (fun z73 hz73 => ?_)
          refine h_iald (pc' := 625) (v := s0 0 (b3 + 1)) rfl rfl rfl hz73 (by omega) (by omega) (Zs71 _) (fun z74 hz74 => ?_)
          have tz74 := h_rgv hz74
          refine h_aload_n (pc' := 626) rfl rfl rfl ?_
          refine h_iload_n (pc' := 627) rfl rfl rfl ?_
          refine h_iconst (pc' := 628) (x := (Int32.ofInt 2)) rfl rfl rfl ?_
          refine h_iadd (pc' := 629) rfl rfl hy3 ci_2 rfl (by omega) (by omega) (fun z75 hz75 => ?_)
          refine h_iald (pc' := 630) (v := s0 0 (b3 + 2)) rfl rfl rfl hz75 (by omega) (by omega) (Zs71 _) (fun z76 hz76 => ?_)
          have tz76 := h_rgv hz76
          have qz74 : z74 = (Int32.ofInt 1) := h_lit (show z74.toInt = 1 by omega) ci_1
          subst qz74
          refine h_call (sp := false) (pc' := 633) (M := [(0, .ref 98), (1, .int (Int32.ofInt 1)), (2, .int z76)]) rfl rfl rfl rfl rfl rfl rfl rfl ?_
          refine n_undo1 _ Is71  z76 _ hz76 (fun r77 br77 hr77 s78 Is78 Gs78 tr77 ps78_0 => h_Kv ?_)
          have Zs78 : ∀ i, s78 0 i = s0 0 i := fun i => (Gs78 0 i rfl).trans (Zs71 i)
          have Fs78 : h_F (fun _ _ => true) s78 s0 := fun _ _ h => by cases h
          have es78_0 : s78 64 1 = s0 64 1 := (Gs78 64 1 rfl).trans es71_0
          have es78_1 : s78 98 11 = s0 98 11 := (Gs78 98 11 rfl).trans es71_1
          have es78_2 : s78 64 4 = s0 64 4 := (Gs78 64 4 rfl).trans es71_2
          have es78_3 : s78 98 16 = s0 98 16 := (Gs78 98 16 rfl).trans es71_3
          have es78_4 : s78 63 2 = s0 63 2 := (Gs78 63 2 rfl).trans es71_4
          have es78_5 : s78 10 8 = s0 10 8 := (Gs78 10 8 rfl).trans es71_5
          have es78_6 : s78 98 1 = s0 98 1 := (Gs78 98 1 rfl).trans es71_6
          have es78_7 : s78 10 9 = s0 10 9 := (Gs78 10 9 rfl).trans es71_7
          have es78_8 : s78 98 2 = s0 98 2 := (Gs78 98 2 rfl).trans es71_8
          have es78_9 : s78 10 10 = s0 10 10 := (Gs78 10 10 rfl).trans es71_9
          have es78_10 : s78 99 43 = s0 99 43 := (Gs78 99 43 rfl).trans es71_10
          have es78_11 : s78 13 2 = s0 13 2 := (Gs78 13 2 rfl).trans es71_11
          have es78_12 : s78 99 18 = s0 99 18 := (Gs78 99 18 rfl).trans es71_12
          have es78_13 : s78 16 2 = s71 16 2 := (Gs78 16 2 rfl).trans rfl
          have es78_15 : s78 62 0 = s0 62 0 := (Gs78 62 0 rfl).trans es71_15
          have es78_16 : s78 110 0 = s0 110 0 := (Gs78 110 0 rfl).trans es71_16
          have es78_17 : s78 62 1 = s0 62 1 := (Gs78 62 1 rfl).trans es71_17
          have es78_18 : s78 110 1 = s0 110 1 := (Gs78 110 1 rfl).trans es71_18
          refine h_pop (pc' := 634) rfl rfl rfl ?_
          refine h_goto (pc' := 1441) rfl rfl ?_
          exact kk _ Is78 (by first | exact d_tape.le j0 (Int.le_antisymm (by omega) (by omega)) (by omega) (fun j => (Gs78 65 j rfl).trans ((Gs71 65 j rfl))) (fun j => (Gs78 102 j rfl).trans ((Gs71 102 j rfl))) | (exfalso; omega)) (Int.le_antisymm (by omega) (by omega)) (by rcases ps78_0 with q | q; (exfalso; omega); (exact c_R.und16 j2 I0 (by omega) (by omega) ((Gs78 16 2 rfl).trans ps71_0) (fun j => (Gs78 17 j rfl).trans (ps71_1 j)) (fun j => (Gs78 18 j rfl).trans (ps71_2 j)) (fun j => (h_undf (fun i => Gs71 99 i rfl) q.2.2.2) j) ((Gs78 10 8 rfl).trans (Gs71 10 8 rfl)) ((Gs78 10 9 rfl).trans (Gs71 10 9 rfl)) ((Gs78 10 10 rfl).trans (Gs71 10 10 rfl)) ((Gs78 13 2 rfl).trans (Gs71 13 2 rfl)) (fun j => (Gs78 11 j rfl).trans (Gs71 11 j rfl)) (fun j => (Gs78 12 j rfl).trans (Gs71 12 j rfl)) (fun j => (Gs78 14 j rfl).trans (Gs71 14 j rfl)) (fun j => (Gs78 15 j rfl).trans (Gs71 15 j rfl)) (fun j => (Gs78 19 j rfl).trans (Gs71 19 j rfl)) (fun j => (Gs78 20 j rfl).trans (Gs71 20 j rfl)) (fun j => (Gs78 21 j rfl).trans (Gs71 21 j rfl)) (fun j => (Gs78 22 j rfl).trans (Gs71 22 j rfl)) ((Gs78 98 1 rfl).trans (Gs71 98 1 rfl)) ((Gs78 98 2 rfl).trans (Gs71 98 2 rfl)) ((c_eq.fr (fl := false) Gs78 rfl).tr (c_eq.fr (fl := false) Gs71 rfl)) ((c_eq.fr (fl := false) Gs78 rfl).tr (c_eq.fr (fl := false) Gs71 rfl)) ((Gs78 62 0 rfl).trans (Gs71 62 0 rfl)) ((Gs78 62 1 rfl).trans (Gs71 62 1 rfl)) ((Gs78 110 0 rfl).trans (Gs71 110 0 rfl)) ((Gs78 110 1 rfl).trans (Gs71 110 1 rfl))))
set_option maxHeartbeats 100000000 in
theorem g_case_637 {ns : Nat} (hns : ns ≤ 320) (s0 : h_S) (I0 : h_I s0) (j0 : d_tape s0 s0) (j1 : s0 64 4 = s0 98 16) (j2 : c_R false s0) (y3 : Int32) (b3 : Int) (hy3 : y3.toInt = b3) (hr : 0 ≤ b3 ∧ b3 + 5 ≤ ns) {Q : Option Value → h_S → Prop} (kk : ∀ τ, h_I τ → (d_tape τ τ) → (τ 64 4 = τ 98 16) → (c_R false τ) → h_T g_P (g_Y ns) 225 1441 [(0, .ref 0), (1, .ref 9), (2, .ref 98), (3, .int y3)] [] τ Q) : h_T g_P (g_Y ns) 225 637 [(0, .ref 0), (1, .ref 9), (2, .ref 98), (3, .int y3)] [] s0 Q := by
  have F0_ : h_F (fun _ _ => true) s0 s0 := h_F.rf
  have j0_ := j0.2
  have i0 := tf_64_1 I0
  have i1 := tf_98_11 I0
  have i2 := tf_64_4 I0
  have i3 := tf_98_16 I0
  have i4 := tf_63_2 I0
  have i5 := tf_10_8 I0
  have i6 := tf_98_1 I0
  have i7 := tf_10_9 I0
  have i8 := tf_98_2 I0
  have i9 := tf_10_10 I0
  have i11 := tf_13_2 I0
  have i13 := tf_16_2 I0
  have j2_ := j2.sz
  have j2i := j2.2.2.1
  have y43 := ty_99_10 I0 43 (by omega)
  have y18 := ty_99_3 I0 18 (by omega)
  have y25 := ty_99_5 I0 25 (by omega)
  have y62_0 := ty_62 I0 0
  have y62_1 := ty_62 I0 1
  have y110_0 := ty_110 I0 0
  have y110_1 := ty_110 I0 1
  refine h_aload_n (pc' := 638) rfl rfl rfl ?_
  refine h_aload_n (pc' := 639) rfl rfl rfl ?_
  refine h_iload_n (pc' := 640) rfl rfl rfl ?_
  refine h_iconst (pc' := 641) (x := (Int32.ofInt 1)) rfl rfl rfl ?_
  refine h_iadd (pc' := 642) rfl rfl hy3 ci_1 rfl (by omega) (by omega) (fun z1 hz1 => ?_)
  refine h_iald (pc' := 643) (v := s0 0 (b3 + 1)) rfl rfl rfl hz1 (by omega) (by omega) rfl (fun z2 hz2 => ?_)
  have tz2 := h_rgv hz2
  refine h_aload_n (pc' := 644) rfl rfl rfl ?_
  refine h_iload_n (pc' := 645) rfl rfl rfl ?_
  refine h_iconst (pc' := 646) (x := (Int32.ofInt 2)) rfl rfl rfl ?_
  refine h_iadd (pc' := 647) rfl rfl hy3 ci_2 rfl (by omega) (by omega) (fun z3 hz3 => ?_)
  refine h_iald (pc' := 648) (v := s0 0 (b3 + 2)) rfl rfl rfl hz3 (by omega) (by omega) rfl (fun z4 hz4 => ?_)
  have tz4 := h_rgv hz4
  refine h_aload_n (pc' := 649) rfl rfl rfl ?_
  refine h_iload_n (pc' := 650) rfl rfl rfl ?_
  refine h_iconst (pc' := 651) (x := (Int32.ofInt 3)) rfl rfl rfl ?_
  refine h_iadd (pc' := 652) rfl rfl hy3 ci_3 rfl (by omega) (by omega) (fun z5 hz5 => ?_)
  refine h_iald (pc' := 653) (v := s0 0 (b3 + 3)) rfl rfl rfl hz5 (by omega) (by omega) rfl (fun z6 hz6 => ?_)
  have tz6 := h_rgv hz6
  refine h_call (sp := false) (pc' := 656) (M := [(0, .ref 9), (1, .int z2), (2, .int z4), (3, .int z6)]) rfl rfl rfl rfl rfl rfl rfl rfl ?_
  refine h_aload_n (pc' := 1) rfl rfl rfl ?_
  refine h_getR (pc' := 4) rfl rfl rfl rfl rfl ?_
  refine h_iload_n (pc' := 5) rfl rfl rfl ?_
  refine h_call (sp := false) (pc' := 8) (M := [(0, .ref 10), (1, .int z2)]) rfl rfl rfl rfl rfl rfl rfl rfl ?_
  refine h_iload_n (pc' := 1) rfl rfl rfl ?_
  refine h_zlt (tg := 16) (pc' := 4) rfl rfl rfl hz2 (fun c7 => ?_) (fun c7 => ?_)
  · refine h_iconst (pc' := 17) (x := (Int32.ofInt 0)) rfl rfl rfl ?_
    refine h_zret rfl rfl ci_0 (by omega) (h_Kv ?_)
    refine h_zne (tg := 13) (pc' := 11) rfl rfl rfl ci_0 (fun c8 => absurd (Int.le_antisymm (by omega) (by omega)) c8) (fun c8 => ?_)
    refine h_iconst (pc' := 12) (x := (Int32.ofInt (-1))) rfl rfl rfl ?_
    refine h_iret rfl rfl (h_Kv ?_)
    refine h_pop (pc' := 657) rfl rfl rfl ?_
    refine h_aload_n (pc' := 658) rfl rfl rfl ?_
    refine h_aload_n (pc' := 659) rfl rfl rfl ?_
    refine h_iload_n (pc' := 660) rfl rfl rfl ?_
    refine h_iconst (pc' := 661) (x := (Int32.ofInt 1)) rfl rfl rfl ?_
    refine h_iadd (pc' := 662) rfl rfl hy3 ci_1 rfl (by omega) (by omega) (fun z9 hz9 => ?_)
    refine h_iald (pc' := 663) (v := s0 0 (b3 + 1)) rfl rfl rfl hz9 (by omega) (by omega) rfl (fun z10 hz10 => ?_)
    have tz10 := h_rgv hz10
    refine h_aload_n (pc' := 664) rfl rfl rfl ?_
    refine h_iload_n (pc' := 665) rfl rfl rfl ?_
    refine h_iconst (pc' := 666) (x := (Int32.ofInt 2)) rfl rfl rfl ?_
    refine h_iadd (pc' := 667) rfl rfl hy3 ci_2 rfl (by omega) (by omega) (fun z11 hz11 => ?_)
    refine h_iald (pc' := 668) (v := s0 0 (b3 + 2)) rfl rfl rfl hz11 (by omega) (by omega) rfl (fun z12 hz12 => ?_)
    have tz12 := h_rgv hz12
    refine h_aload_n (pc' := 669) rfl rfl rfl ?_
    refine h_iload_n (pc' := 670) rfl rfl rfl ?_
    refine h_iconst (pc' := 671) (x := (Int32.ofInt 3)) rfl rfl rfl ?_
    refine h_iadd (pc' := 672) rfl rfl hy3 ci_3 rfl (by omega) (by omega) (fun z13 hz13 => ?_)
    refine h_iald (pc' := 673) (v := s0 0 (b3 + 3)) rfl rfl rfl hz13 (by omega) (by omega) rfl (fun z14 hz14 => ?_)
    have tz14 := h_rgv hz14
    refine h_call (sp := false) (pc' := 676) (M := [(0, .ref 98), (1, .int z10), (2, .int z12), (3, .int z14)]) rfl rfl rfl rfl rfl rfl rfl rfl ?_
    refine h_iload_n (pc' := 1) rfl rfl rfl ?_
    refine h_iconst (pc' := 2) (x := (Int32.ofInt 1)) rfl rfl rfl ?_
    refine h_cne (tg := 43) (pc' := 5) rfl rfl rfl hz12 ci_1 (fun c15 => ?_) (fun c15 => ?_)
    · refine h_aload_n (pc' := 44) rfl rfl rfl ?_
      refine h_aload_n (pc' := 45) rfl rfl rfl ?_
      refine h_iload_n (pc' := 46) rfl rfl rfl ?_
      refine h_call (sp := false) (pc' := 49) (M := [(0, .ref 98), (1, .int z10)]) rfl rfl rfl rfl rfl rfl rfl rfl ?_
      refine h_iload_n (pc' := 1) rfl rfl rfl ?_
      refine h_i2l (pc' := 2) rfl rfl hz10 (fun z16 hz16 => ?_)
      refine h_lconst (pc' := 3) (x := (Int64.ofInt 0)) rfl rfl rfl ?_
      refine h_aload_n (pc' := 4) rfl rfl rfl ?_
      refine h_getI (pc' := 7) (v := s0 98 2) rfl rfl rfl rfl rfl rfl (fun z17 hz17 => ?_)
      have tz17 := tf_98_2 I0
      refine h_iconst (pc' := 8) (x := (Int32.ofInt 1)) rfl rfl rfl ?_
      refine h_isub (pc' := 9) rfl rfl hz17 ci_1 rfl (by omega) (by omega) (fun z18 hz18 => ?_)
      refine h_i2l (pc' := 10) rfl rfl hz18 (fun z19 hz19 => ?_)
      refine h_calls (pc' := 13) (M := [(0, .long z16), (2, .long (Int64.ofInt 0)), (4, .long z19)]) rfl rfl rfl rfl rfl rfl ?_
      refine h_lload_n (pc' := 1) rfl rfl rfl ?_
      refine h_lload_n (pc' := 2) rfl rfl rfl ?_
      refine h_lcmp (pc' := 3) rfl rfl hz16 cl_0 (fun z20 hz20 => ?_)
      refine h_zlt (tg := 17) (pc' := 6) rfl rfl rfl rfl (fun c21 => ?_) (fun c21 => absurd c21 (by omega))
      replace c21 := (h_lcr hz20).1 c21
      clear hz20
      refine h_iconst (pc' := 18) (x := (Int32.ofInt 0)) rfl rfl rfl ?_
      refine h_zret rfl rfl ci_0 (by omega) (h_Kv ?_)
      refine h_zret rfl rfl ci_0 (by omega) (h_Kv ?_)
      refine h_zeq (tg := 72) (pc' := 52) rfl rfl rfl ci_0 (fun c22 => ?_) (fun c22 => absurd (Int.le_antisymm (by omega) (by omega)) c22)
      refine h_iconst (pc' := 73) (x := (Int32.ofInt 0)) rfl rfl rfl ?_
      refine h_bipush (pc' := 75) (x := (Int32.ofInt 26)) rfl rfl cb_26 ?_
      refine h_iload_n (pc' := 76) rfl rfl rfl ?_
      refine h_iadd (pc' := 77) rfl rfl ci_26 hz10 rfl (by have g0 := h_rgv hz10; omega) (by have g0 := h_rgv hz10; omega) (fun z23 hz23 => ?_)
      refine h_iload_n (pc' := 78) rfl rfl rfl ?_
      refine h_iconst (pc' := 79) (x := (Int32.ofInt 0)) rfl rfl rfl ?_
      refine h_call (sp := false) (pc' := 82) (M := [(0, .ref 98), (1, .int (Int32.ofInt 0)), (2, .int z23), (3, .int z14), (4, .int (Int32.ofInt 0))]) rfl rfl rfl rfl rfl rfl rfl rfl ?_
      refine h_iload_n (pc' := 1) rfl rfl rfl ?_
      refine h_zne (tg := 6) (pc' := 4) rfl rfl rfl ci_0 (fun c24 => absurd (Int.le_antisymm (by omega) (by omega)) c24) (fun c24 => ?_)
      refine h_iconst (pc' := 5) (x := (Int32.ofInt (-1))) rfl rfl rfl ?_
      refine h_iret rfl rfl (h_Kv ?_)
      refine h_iret rfl rfl (h_Kv ?_)
      refine h_pop (pc' := 677) rfl rfl rfl ?_
      refine h_goto (pc' := 1441) rfl rfl ?_
      exact kk _ I0 (by first | exact d_tape.le j0 (Int.le_antisymm (by omega) (by omega)) (by omega) (fun j => rfl) (fun j => rfl) | (exfalso; omega)) (Int.le_antisymm (by omega) (by omega)) j2
    · refine h_aload_n (pc' := 6) rfl rfl rfl ?_
      refine h_aload_n (pc' := 7) rfl rfl rfl ?_
      refine h_iload_n (pc' := 8) rfl rfl rfl ?_
      refine h_call (sp := false) (pc' := 11) (M := [(0, .ref 98), (1, .int z10)]) rfl rfl rfl rfl rfl rfl rfl rfl ?_
      refine h_iload_n (pc' := 1) rfl rfl rfl ?_
      refine h_i2l (pc' := 2) rfl rfl hz10 (fun z25 hz25 => ?_)
      refine h_lconst (pc' := 3) (x := (Int64.ofInt 0)) rfl rfl rfl ?_
      refine h_aload_n (pc' := 4) rfl rfl rfl ?_
      refine h_getI (pc' := 7) (v := s0 98 2) rfl rfl rfl rfl rfl rfl (fun z26 hz26 => ?_)
      have tz26 := tf_98_2 I0
      refine h_iconst (pc' := 8) (x := (Int32.ofInt 1)) rfl rfl rfl ?_
      refine h_isub (pc' := 9) rfl rfl hz26 ci_1 rfl (by omega) (by omega) (fun z27 hz27 => ?_)
      refine h_i2l (pc' := 10) rfl rfl hz27 (fun z28 hz28 => ?_)
      refine h_calls (pc' := 13) (M := [(0, .long z25), (2, .long (Int64.ofInt 0)), (4, .long z28)]) rfl rfl rfl rfl rfl rfl ?_
      refine h_lload_n (pc' := 1) rfl rfl rfl ?_
      refine h_lload_n (pc' := 2) rfl rfl rfl ?_
      refine h_lcmp (pc' := 3) rfl rfl hz25 cl_0 (fun z29 hz29 => ?_)
      refine h_zlt (tg := 17) (pc' := 6) rfl rfl rfl rfl (fun c30 => ?_) (fun c30 => absurd c30 (by omega))
      replace c30 := (h_lcr hz29).1 c30
      clear hz29
      refine h_iconst (pc' := 18) (x := (Int32.ofInt 0)) rfl rfl rfl ?_
      refine h_zret rfl rfl ci_0 (by omega) (h_Kv ?_)
      refine h_zret rfl rfl ci_0 (by omega) (h_Kv ?_)
      refine h_zeq (tg := 32) (pc' := 14) rfl rfl rfl ci_0 (fun c31 => ?_) (fun c31 => absurd (Int.le_antisymm (by omega) (by omega)) c31)
      refine h_iconst (pc' := 33) (x := (Int32.ofInt 0)) rfl rfl rfl ?_
      refine h_bipush (pc' := 35) (x := (Int32.ofInt 29)) rfl rfl cb_29 ?_
      refine h_iload_n (pc' := 36) rfl rfl rfl ?_
      refine h_iadd (pc' := 37) rfl rfl ci_29 hz10 rfl (by have g0 := h_rgv hz10; omega) (by have g0 := h_rgv hz10; omega) (fun z32 hz32 => ?_)
      refine h_iload_n (pc' := 38) rfl rfl rfl ?_
      refine h_iconst (pc' := 39) (x := (Int32.ofInt 1)) rfl rfl rfl ?_
      refine h_call (sp := false) (pc' := 42) (M := [(0, .ref 98), (1, .int (Int32.ofInt 0)), (2, .int z32), (3, .int z14), (4, .int (Int32.ofInt 1))]) rfl rfl rfl rfl rfl rfl rfl rfl ?_
      refine h_iload_n (pc' := 1) rfl rfl rfl ?_
      refine h_zne (tg := 6) (pc' := 4) rfl rfl rfl ci_0 (fun c33 => absurd (Int.le_antisymm (by omega) (by omega)) c33) (fun c33 => ?_)
      refine h_iconst (pc' := 5) (x := (Int32.ofInt (-1))) rfl rfl rfl ?_
      refine h_iret rfl rfl (h_Kv ?_)
      refine h_iret rfl rfl (h_Kv ?_)
      refine h_pop (pc' := 677) rfl rfl rfl ?_
      refine h_goto (pc' := 1441) rfl rfl ?_
      exact kk _ I0 (by first | exact d_tape.le j0 (Int.le_antisymm (by omega) (by omega)) (by omega) (fun j => rfl) (fun j => rfl) | (exfalso; omega)) (Int.le_antisymm (by omega) (by omega)) j2
  · refine h_iload_n (pc' := 5) rfl rfl rfl ?_
    refine h_aload_n (pc' := 6) rfl rfl rfl ?_
    refine h_getI (pc' := 9) (v := s0 10 9) rfl rfl rfl rfl rfl rfl (fun z34 hz34 => ?_)
    have tz34 := tf_10_9 I0
    refine h_cge (tg := 16) (pc' := 12) rfl rfl rfl hz2 hz34 (fun c35 => ?_) (fun c35 => ?_)
    · refine h_iconst (pc' := 17) (x := (Int32.ofInt 0)) rfl rfl rfl ?_
      refine h_zret rfl rfl ci_0 (by omega) (h_Kv ?_)
      refine h_zne (tg := 13) (pc' := 11) rfl rfl rfl ci_0 (fun c36 => absurd (Int.le_antisymm (by omega) (by omega)) c36) (fun c36 => ?_)
      refine h_iconst (pc' := 12) (x := (Int32.ofInt (-1))) rfl rfl rfl ?_
      refine h_iret rfl rfl (h_Kv ?_)
      refine h_pop (pc' := 657) rfl rfl rfl ?_
      refine h_aload_n (pc' := 658) rfl rfl rfl ?_
      refine h_aload_n (pc' := 659) rfl rfl rfl ?_
      refine h_iload_n (pc' := 660) rfl rfl rfl ?_
      refine h_iconst (pc' := 661) (x := (Int32.ofInt 1)) rfl rfl rfl ?_
      refine h_iadd (pc' := 662) rfl rfl hy3 ci_1 rfl (by omega) (by omega) (fun z37 hz37 => ?_)
      refine h_iald (pc' := 663) (v := s0 0 (b3 + 1)) rfl rfl rfl hz37 (by omega) (by omega) rfl (fun z38 hz38 => ?_)
      have tz38 := h_rgv hz38
      refine h_aload_n (pc' := 664) rfl rfl rfl ?_
      refine h_iload_n (pc' := 665) rfl rfl rfl ?_
      refine h_iconst (pc' := 666) (x := (Int32.ofInt 2)) rfl rfl rfl ?_
      refine h_iadd (pc' := 667) rfl rfl hy3 ci_2 rfl (by omega) (by omega) (fun z39 hz39 => ?_)
      refine h_iald (pc' := 668) (v := s0 0 (b3 + 2)) rfl rfl rfl hz39 (by omega) (by omega) rfl (fun z40 hz40 => ?_)
      have tz40 := h_rgv hz40
      refine h_aload_n (pc' := 669) rfl rfl rfl ?_
      refine h_iload_n (pc' := 670) rfl rfl rfl ?_
      refine h_iconst (pc' := 671) (x := (Int32.ofInt 3)) rfl rfl rfl ?_
      refine h_iadd (pc' := 672) rfl rfl hy3 ci_3 rfl (by omega) (by omega) (fun z41 hz41 => ?_)
      refine h_iald (pc' := 673) (v := s0 0 (b3 + 3)) rfl rfl rfl hz41 (by omega) (by omega) rfl (fun z42 hz42 => ?_)
      have tz42 := h_rgv hz42
      refine h_call (sp := false) (pc' := 676) (M := [(0, .ref 98), (1, .int z38), (2, .int z40), (3, .int z42)]) rfl rfl rfl rfl rfl rfl rfl rfl ?_
      refine h_iload_n (pc' := 1) rfl rfl rfl ?_
      refine h_iconst (pc' := 2) (x := (Int32.ofInt 1)) rfl rfl rfl ?_
      refine h_cne (tg := 43) (pc' := 5) rfl rfl rfl hz40 ci_1 (fun c43 => ?_) (fun c43 => ?_)
      · refine h_aload_n (pc' := 44) rfl rfl rfl ?_
        refine h_aload_n (pc' := 45) rfl rfl rfl ?_
        refine h_iload_n (pc' := 46) rfl rfl rfl ?_
        refine h_call (sp := false) (pc' := 49) (M := [(0, .ref 98), (1, .int z38)]) rfl rfl rfl rfl rfl rfl rfl rfl ?_
        refine h_iload_n (pc' := 1) rfl rfl rfl ?_
        refine h_i2l (pc' := 2) rfl rfl hz38 (fun z44 hz44 => ?_)
        refine h_lconst (pc' := 3) (x := (Int64.ofInt 0)) rfl rfl rfl ?_
        refine h_aload_n (pc' := 4) rfl rfl rfl ?_
        refine h_getI (pc' := 7) (v := s0 98 2) rfl rfl rfl rfl rfl rfl (fun z45 hz45 => ?_)
        have tz45 := tf_98_2 I0
        refine h_iconst (pc' := 8) (x := (Int32.ofInt 1)) rfl rfl rfl ?_
        refine h_isub (pc' := 9) rfl rfl hz45 ci_1 rfl (by omega) (by omega) (fun z46 hz46 => ?_)
        refine h_i2l (pc' := 10) rfl rfl hz46 (fun z47 hz47 => ?_)
        refine h_calls (pc' := 13) (M := [(0, .long z44), (2, .long (Int64.ofInt 0)), (4, .long z47)]) rfl rfl rfl rfl rfl rfl ?_
        refine h_lload_n (pc' := 1) rfl rfl rfl ?_
        refine h_lload_n (pc' := 2) rfl rfl rfl ?_
        refine h_lcmp (pc' := 3) rfl rfl hz44 cl_0 (fun z48 hz48 => ?_)
        refine h_zlt (tg := 17) (pc' := 6) rfl rfl rfl rfl (fun c49 => absurd c49 (by omega)) (fun c49 => ?_)
        replace c49 := (h_lcr hz48).2.1 c49
        clear hz48
        refine h_lload_n (pc' := 7) rfl rfl rfl ?_
        refine h_lload (pc' := 9) rfl rfl rfl ?_
        refine h_lcmp (pc' := 10) rfl rfl hz44 hz47 (fun z50 hz50 => ?_)
        refine h_zgt (tg := 17) (pc' := 13) rfl rfl rfl rfl (fun c51 => ?_) (fun c51 => absurd c51 (by omega))
        replace c51 := (h_lcr hz50).2.2.2.1 c51
        clear hz50
        refine h_iconst (pc' := 18) (x := (Int32.ofInt 0)) rfl rfl rfl ?_
        refine h_zret rfl rfl ci_0 (by omega) (h_Kv ?_)
        refine h_zret rfl rfl ci_0 (by omega) (h_Kv ?_)
        refine h_zeq (tg := 72) (pc' := 52) rfl rfl rfl ci_0 (fun c52 => ?_) (fun c52 => absurd (Int.le_antisymm (by omega) (by omega)) c52)
        refine h_iconst (pc' := 73) (x := (Int32.ofInt 0)) rfl rfl rfl ?_
        refine h_bipush (pc' := 75) (x := (Int32.ofInt 26)) rfl rfl cb_26 ?_
        refine h_iload_n (pc' := 76) rfl rfl rfl ?_
        refine h_iaddA (pc' := 77) rfl rfl (fun z53 hz53 => ?_)
        refine h_iload_n (pc' := 78) rfl rfl rfl ?_
        refine h_iconst (pc' := 79) (x := (Int32.ofInt 0)) rfl rfl rfl ?_
        refine h_call (sp := false) (pc' := 82) (M := [(0, .ref 98), (1, .int (Int32.ofInt 0)), (2, .int z53), (3, .int z42), (4, .int (Int32.ofInt 0))]) rfl rfl rfl rfl rfl rfl rfl rfl ?_
        refine h_iload_n (pc' := 1) rfl rfl rfl ?_
        refine h_zne (tg := 6) (pc' := 4) rfl rfl rfl ci_0 (fun c54 => absurd (Int.le_antisymm (by omega) (by omega)) c54) (fun c54 => ?_)
        refine h_iconst (pc' := 5) (x := (Int32.ofInt (-1))) rfl rfl rfl ?_
        refine h_iret rfl rfl (h_Kv ?_)
        refine h_iret rfl rfl (h_Kv ?_)
        refine h_pop (pc' := 677) rfl rfl rfl ?_
        refine h_goto (pc' := 1441) rfl rfl ?_
        exact kk _ I0 (by first | exact d_tape.le j0 (Int.le_antisymm (by omega) (by omega)) (by omega) (fun j => rfl) (fun j => rfl) | (exfalso; omega)) (Int.le_antisymm (by omega) (by omega)) j2
      · refine h_aload_n (pc' := 6) rfl rfl rfl ?_
        refine h_aload_n (pc' := 7) rfl rfl rfl ?_
        refine h_iload_n (pc' := 8) rfl rfl rfl ?_
        refine h_call (sp := false) (pc' := 11) (M := [(0, .ref 98), (1, .int z38)]) rfl rfl rfl rfl rfl rfl rfl rfl ?_
        refine h_iload_n (pc' := 1) rfl rfl rfl ?_
        refine h_i2l (pc' := 2) rfl rfl hz38 (fun z55 hz55 => ?_)
        refine h_lconst (pc' := 3) (x := (Int64.ofInt 0)) rfl rfl rfl ?_
        refine h_aload_n (pc' := 4) rfl rfl rfl ?_
        refine h_getI (pc' := 7) (v := s0 98 2) rfl rfl rfl rfl rfl rfl (fun z56 hz56 => ?_)
        have tz56 := tf_98_2 I0
        refine h_iconst (pc' := 8) (x := (Int32.ofInt 1)) rfl rfl rfl ?_
        refine h_isub (pc' := 9) rfl rfl hz56 ci_1 rfl (by omega) (by omega) (fun z57 hz57 => ?_)
        refine h_i2l (pc' := 10) rfl rfl hz57 (fun z58 hz58 => ?_)
        refine h_calls (pc' := 13) (M := [(0, .long z55), (2, .long (Int64.ofInt 0)), (4, .long z58)]) rfl rfl rfl rfl rfl rfl ?_
        refine h_lload_n (pc' := 1) rfl rfl rfl ?_
        refine h_lload_n (pc' := 2) rfl rfl rfl ?_
        refine h_lcmp (pc' := 3) rfl rfl hz55 cl_0 (fun z59 hz59 => ?_)
        refine h_zlt (tg := 17) (pc' := 6) rfl rfl rfl rfl (fun c60 => absurd c60 (by omega)) (fun c60 => ?_)
        replace c60 := (h_lcr hz59).2.1 c60
        clear hz59
        refine h_lload_n (pc' := 7) rfl rfl rfl ?_
        refine h_lload (pc' := 9) rfl rfl rfl ?_
        refine h_lcmp (pc' := 10) rfl rfl hz55 hz58 (fun z61 hz61 => ?_)
        refine h_zgt (tg := 17) (pc' := 13) rfl rfl rfl rfl (fun c62 => ?_) (fun c62 => absurd c62 (by omega))
        replace c62 := (h_lcr hz61).2.2.2.1 c62
        clear hz61
        refine h_iconst (pc' := 18) (x := (Int32.ofInt 0)) rfl rfl rfl ?_
        refine h_zret rfl rfl ci_0 (by omega) (h_Kv ?_)
        refine h_zret rfl rfl ci_0 (by omega) (h_Kv ?_)
        refine h_zeq (tg := 32) (pc' := 14) rfl rfl rfl ci_0 (fun c63 => ?_) (fun c63 => absurd (Int.le_antisymm (by omega) (by omega)) c63)
        refine h_iconst (pc' := 33) (x := (Int32.ofInt 0)) rfl rfl rfl ?_
        refine h_bipush (pc' := 35) (x := (Int32.ofInt 29)) rfl rfl cb_29 ?_
        refine h_iload_n (pc' := 36) rfl rfl rfl ?_
        refine h_iaddA (pc' := 37) rfl rfl (fun z64 hz64 => ?_)
        refine h_iload_n (pc' := 38) rfl rfl rfl ?_
        refine h_iconst (pc' := 39) (x := (Int32.ofInt 1)) rfl rfl rfl ?_
        refine h_call (sp := false) (pc' := 42) (M := [(0, .ref 98), (1, .int (Int32.ofInt 0)), (2, .int z64), (3, .int z42), (4, .int (Int32.ofInt 1))]) rfl rfl rfl rfl rfl rfl rfl rfl ?_
        refine h_iload_n (pc' := 1) rfl rfl rfl ?_
        refine h_zne (tg := 6) (pc' := 4) rfl rfl rfl ci_0 (fun c65 => absurd (Int.le_antisymm (by omega) (by omega)) c65) (fun c65 => ?_)
        refine h_iconst (pc' := 5) (x := (Int32.ofInt (-1))) rfl rfl rfl ?_
        refine h_iret rfl rfl (h_Kv ?_)
        refine h_iret rfl rfl (h_Kv ?_)
        refine h_pop (pc' := 677) rfl rfl rfl ?_
        refine h_goto (pc' := 1441) rfl rfl ?_
        exact kk _ I0 (by first | exact d_tape.le j0 (Int.le_antisymm (by omega) (by omega)) (by omega) (fun j => rfl) (fun j => rfl) | (exfalso; omega)) (Int.le_antisymm (by omega) (by omega)) j2
    · refine h_iconst (pc' := 13) (x := (Int32.ofInt 1)) rfl rfl rfl ?_
      refine h_goto (pc' := 17) rfl rfl ?_
      refine h_zret rfl rfl ci_1 (by omega) (h_Kv ?_)
      refine h_zne (tg := 13) (pc' := 11) rfl rfl rfl ci_1 (fun c66 => ?_) (fun c66 => absurd c66 (by omega))
      refine h_iload_n (pc' := 14) rfl rfl rfl ?_
      refine h_zne (tg := 51) (pc' := 17) rfl rfl rfl hz4 (fun c67 => ?_) (fun c67 => ?_)
      · refine h_iload_n (pc' := 52) rfl rfl rfl ?_
        refine h_iconst (pc' := 53) (x := (Int32.ofInt 1)) rfl rfl rfl ?_
        refine h_cne (tg := 97) (pc' := 56) rfl rfl rfl hz4 ci_1 (fun c68 => ?_) (fun c68 => ?_)
        · refine h_iconst (pc' := 98) (x := (Int32.ofInt (-1))) rfl rfl rfl ?_
          refine h_iret rfl rfl (h_Kv ?_)
          refine h_pop (pc' := 657) rfl rfl rfl ?_
          refine h_aload_n (pc' := 658) rfl rfl rfl ?_
          refine h_aload_n (pc' := 659) rfl rfl rfl ?_
          refine h_iload_n (pc' := 660) rfl rfl rfl ?_
          refine h_iconst (pc' := 661) (x := (Int32.ofInt 1)) rfl rfl rfl ?_
          refine h_iadd (pc' := 662) rfl rfl hy3 ci_1 rfl (by omega) (by omega) (fun z69 hz69 => ?_)
          refine h_iald (pc' := 663) (v := s0 0 (b3 + 1)) rfl rfl rfl hz69 (by omega) (by omega) rfl (fun z70 hz70 => ?_)
          have tz70 := h_rgv hz70
          refine h_aload_n (pc' := 664) rfl rfl rfl ?_
          refine h_iload_n (pc' := 665) rfl rfl rfl ?_
          refine h_iconst (pc' := 666) (x := (Int32.ofInt 2)) rfl rfl rfl ?_
          refine h_iadd (pc' := 667) rfl rfl hy3 ci_2 rfl (by omega) (by omega) (fun z71 hz71 => ?_)
          refine h_iald (pc' := 668) (v := s0 0 (b3 + 2)) rfl rfl rfl hz71 (by omega) (by omega) rfl (fun z72 hz72 => ?_)
          have tz72 := h_rgv hz72
          refine h_aload_n (pc' := 669) rfl rfl rfl ?_
          refine h_iload_n (pc' := 670) rfl rfl rfl ?_
          refine h_iconst (pc' := 671) (x := (Int32.ofInt 3)) rfl rfl rfl ?_
          refine h_iadd (pc' := 672) rfl rfl hy3 ci_3 rfl (by omega) (by omega) (fun z73 hz73 => ?_)
          refine h_iald (pc' := 673) (v := s0 0 (b3 + 3)) rfl rfl rfl hz73 (by omega) (by omega) rfl (fun z74 hz74 => ?_)
          have tz74 := h_rgv hz74
          refine h_call (sp := false) (pc' := 676) (M := [(0, .ref 98), (1, .int z70), (2, .int z72), (3, .int z74)]) rfl rfl rfl rfl rfl rfl rfl rfl ?_
          refine h_iload_n (pc' := 1) rfl rfl rfl ?_
          refine h_iconst (pc' := 2) (x := (Int32.ofInt 1)) rfl rfl rfl ?_
          refine h_cne (tg := 43) (pc' := 5) rfl rfl rfl hz72 ci_1 (fun c75 => ?_) (fun c75 => absurd c75 (by omega))
          refine h_aload_n (pc' := 44) rfl rfl rfl ?_
          refine h_aload_n (pc' := 45) rfl rfl rfl ?_
          refine h_iload_n (pc' := 46) rfl rfl rfl ?_
          refine h_call (sp := false) (pc' := 49) (M := [(0, .ref 98), (1, .int z70)]) rfl rfl rfl rfl rfl rfl rfl rfl ?_
          refine h_iload_n (pc' := 1) rfl rfl rfl ?_
          refine h_i2l (pc' := 2) rfl rfl hz70 (fun z76 hz76 => ?_)
          refine h_lconst (pc' := 3) (x := (Int64.ofInt 0)) rfl rfl rfl ?_
          refine h_aload_n (pc' := 4) rfl rfl rfl ?_
          refine h_getI (pc' := 7) (v := s0 98 2) rfl rfl rfl rfl rfl rfl (fun z77 hz77 => ?_)
          have tz77 := tf_98_2 I0
          refine h_iconst (pc' := 8) (x := (Int32.ofInt 1)) rfl rfl rfl ?_
          refine h_isub (pc' := 9) rfl rfl hz77 ci_1 rfl (by omega) (by omega) (fun z78 hz78 => ?_)
          refine h_i2l (pc' := 10) rfl rfl hz78 (fun z79 hz79 => ?_)
          refine h_calls (pc' := 13) (M := [(0, .long z76), (2, .long (Int64.ofInt 0)), (4, .long z79)]) rfl rfl rfl rfl rfl rfl ?_
          refine h_lload_n (pc' := 1) rfl rfl rfl ?_
          refine h_lload_n (pc' := 2) rfl rfl rfl ?_
          refine h_lcmp (pc' := 3) rfl rfl hz76 cl_0 (fun z80 hz80 => ?_)
          refine h_zlt (tg := 17) (pc' := 6) rfl rfl rfl rfl (fun c81 => absurd c81 (by omega)) (fun c81 => ?_)
          replace c81 := (h_lcr hz80).2.1 c81
          clear hz80
          refine h_lload_n (pc' := 7) rfl rfl rfl ?_
          refine h_lload (pc' := 9) rfl rfl rfl ?_
          refine h_lcmp (pc' := 10) rfl rfl hz76 hz79 (fun z82 hz82 => ?_)
          refine h_zgt (tg := 17) (pc' := 13) rfl rfl rfl rfl (fun c83 => absurd c83 (by omega)) (fun c83 => ?_)
          replace c83 := (h_lcr hz82).2.2.1 c83
          clear hz82
          refine h_iconst (pc' := 14) (x := (Int32.ofInt 1)) rfl rfl rfl ?_
          refine h_goto (pc' := 18) rfl rfl ?_
          refine h_zret rfl rfl ci_1 (by omega) (h_Kv ?_)
          refine h_zret rfl rfl ci_1 (by omega) (h_Kv ?_)
          refine h_zeq (tg := 72) (pc' := 52) rfl rfl rfl ci_1 (fun c84 => absurd c84 (by omega)) (fun c84 => ?_)
          refine h_iload_n (pc' := 53) rfl rfl rfl ?_
          refine h_zne (tg := 72) (pc' := 56) rfl rfl rfl hz72 (fun c85 => ?_) (fun c85 => absurd c85 (by omega))
          refine h_iconst (pc' := 73) (x := (Int32.ofInt 0)) rfl rfl rfl ?_
          refine h_bipush (pc' := 75) (x := (Int32.ofInt 26)) rfl rfl cb_26 ?_
          refine h_iload_n (pc' := 76) rfl rfl rfl ?_
          refine h_iadd (pc' := 77) rfl rfl ci_26 hz70 rfl (by have g0 := h_rgv hz70; omega) (by have g0 := h_rgv hz70; omega) (fun z86 hz86 => ?_)
          refine h_iload_n (pc' := 78) rfl rfl rfl ?_
          refine h_iconst (pc' := 79) (x := (Int32.ofInt 0)) rfl rfl rfl ?_
          refine h_call (sp := false) (pc' := 82) (M := [(0, .ref 98), (1, .int (Int32.ofInt 0)), (2, .int z86), (3, .int z74), (4, .int (Int32.ofInt 0))]) rfl rfl rfl rfl rfl rfl rfl rfl ?_
          refine h_iload_n (pc' := 1) rfl rfl rfl ?_
          refine h_zne (tg := 6) (pc' := 4) rfl rfl rfl ci_0 (fun c87 => absurd (Int.le_antisymm (by omega) (by omega)) c87) (fun c87 => ?_)
          refine h_iconst (pc' := 5) (x := (Int32.ofInt (-1))) rfl rfl rfl ?_
          refine h_iret rfl rfl (h_Kv ?_)
          refine h_iret rfl rfl (h_Kv ?_)
          refine h_pop (pc' := 677) rfl rfl rfl ?_
          refine h_goto (pc' := 1441) rfl rfl ?_
          exact kk _ I0 (by first | exact d_tape.le j0 (Int.le_antisymm (by omega) (by omega)) (by omega) (fun j => rfl) (fun j => rfl) | (exfalso; omega)) (Int.le_antisymm (by omega) (by omega)) j2
        · refine h_iload_n (pc' := 57) rfl rfl rfl ?_
          refine h_bipush (pc' := 59) (x := (Int32.ofInt (-4))) rfl rfl cb_m4 ?_
          refine h_ceq (tg := 73) (pc' := 62) rfl rfl rfl hz6 ci_m4 (fun c88 => ?_) (fun c88 => ?_)
          · refine h_aload_n (pc' := 74) rfl rfl rfl ?_
            refine h_getR (pc' := 77) rfl rfl rfl rfl rfl ?_
            refine h_getR (pc' := 80) rfl rfl rfl rfl rfl ?_
            refine h_iload_n (pc' := 81) rfl rfl rfl ?_
            refine h_iald (pc' := 82) (v := s0 20 (s0 0 (b3 + 1))) rfl rfl rfl hz2 (by omega) (by omega) rfl (fun z89 hz89 => ?_)
            have tz89 := ty_20 I0 (s0 0 (b3 + 1))
            refine h_istore (pc' := 84) (M := [(4, .int z89), (0, .ref 9), (1, .int z2), (2, .int z4), (3, .int z6)]) rfl rfl rfl rfl ?_
            refine h_aload_n (pc' := 85) rfl rfl rfl ?_
            refine h_getR (pc' := 88) rfl rfl rfl rfl rfl ?_
            refine h_getR (pc' := 91) rfl rfl rfl rfl rfl ?_
            refine h_iload_n (pc' := 92) rfl rfl rfl ?_
            refine h_iload_n (pc' := 93) rfl rfl rfl ?_
            refine h_iast (pc' := 94) rfl rfl rfl rfl hz2 (by omega) (by omega) hz6 (h_fgt (E := fun s => s 64 1 = s0 64 1 ∧ s 98 11 = s0 98 11 ∧ s 64 4 = s0 64 4 ∧ s 98 16 = s0 98 16 ∧ s 63 2 = s0 63 2 ∧ s 10 8 = s0 10 8 ∧ s 98 1 = s0 98 1 ∧ s 10 9 = s0 10 9 ∧ s 98 2 = s0 98 2 ∧ s 10 10 = s0 10 10 ∧ s 99 43 = s0 99 43 ∧ s 13 2 = s0 13 2 ∧ s 99 18 = s0 99 18 ∧ s 16 2 = s0 16 2 ∧ s 99 25 = s0 99 25 ∧ s 62 0 = s0 62 0 ∧ s 110 0 = s0 110 0 ∧ s 62 1 = s0 62 1 ∧ s 110 1 = s0 110 1 ∧ s = h_up s0 20 (s0 0 (b3 + 1)) (s0 0 (b3 + 3))) _ (in_20 I0 (by omega)) (F0_.up rfl) ⟨rfl, rfl, rfl, rfl, rfl, rfl, rfl, rfl, rfl, rfl, rfl, rfl, rfl, rfl, rfl, rfl, rfl, rfl, rfl, rfl⟩ (fun s90 Is90 Fs90 (es90 : s90 64 1 = s0 64 1 ∧ s90 98 11 = s0 98 11 ∧ s90 64 4 = s0 64 4 ∧ s90 98 16 = s0 98 16 ∧ s90 63 2 = s0 63 2 ∧ s90 10 8 = s0 10 8 ∧ s90 98 1 = s0 98 1 ∧ s90 10 9 = s0 10 9 ∧ s90 98 2 = s0 98 2 ∧ s90 10 10 = s0 10 10 ∧ s90 99 43 = s0 99 43 ∧ s90 13 2 = s0 13 2 ∧ s90 99 18 = s0 99 18 ∧ s90 16 2 = s0 16 2 ∧ s90 99 25 = s0 99 25 ∧ s90 62 0 = s0 62 0 ∧ s90 110 0 = s0 110 0 ∧ s90 62 1 = s0 62 1 ∧ s90 110 1 = s0 110 1 ∧ s90 = h_up s0 20 (s0 0 (b3 + 1)) (s0 0 (b3 + 3))) => ?_))
            have us90 := es90.2.2.2.2.2.2.2.2.2.2.2.2.2.2.2.2.2.2.2
            have Zs90 : ∀ i, s90 0 i = s0 0 i := fun i => (h_upo us90 rfl i).trans rfl
            refine h_iload (pc' := 96) rfl rfl rfl ?_
            refine h_iret rfl rfl (h_Kv ?_)
            refine h_pop (pc' := 657) rfl rfl rfl ?_
            refine h_aload_n (pc' := 658) rfl rfl rfl ?_
            refine h_aload_n (pc' := 659) rfl rfl rfl ?_
            refine h_iload_n (pc' := 660) rfl rfl rfl ?_
            refine h_iconst (pc' := 661) (x := (Int32.ofInt 1)) rfl rfl rfl ?_
            refine h_iadd (pc' := 662) rfl rfl hy3 ci_1 rfl (by omega) (by omega) (fun z91 hz91 => ?_)
            refine h_iald (pc' := 663) (v := s0 0 (b3 + 1)) rfl rfl rfl hz91 (by omega) (by omega) (Zs90 _) (fun z92 hz92 => ?_)
            have tz92 := h_rgv hz92
            refine h_aload_n (pc' := 664) rfl rfl rfl ?_
            refine h_iload_n (pc' := 665) rfl rfl rfl ?_
            refine h_iconst (pc' := 666) (x := (Int32.ofInt 2)) rfl rfl rfl ?_
            refine h_iadd (pc' := 667) rfl rfl hy3 ci_2 rfl (by omega) (by omega) (fun z93 hz93 => ?_)
            refine h_iald (pc' := 668) (v := s0 0 (b3 + 2)) rfl rfl rfl hz93 (by omega) (by omega) (Zs90 _) (fun z94 hz94 => ?_)
            have tz94 := h_rgv hz94
            refine h_aload_n (pc' := 669) rfl rfl rfl ?_
            refine h_iload_n (pc' := 670) rfl rfl rfl ?_
            refine h_iconst (pc' := 671) (x := (Int32.ofInt 3)) rfl rfl rfl ?_
            refine h_iadd (pc' := 672) rfl rfl hy3 ci_3 rfl (by omega) (by omega) (fun z95 hz95 => ?_)
            refine h_iald (pc' := 673) (v := s0 0 (b3 + 3)) rfl rfl rfl hz95 (by omega) (by omega) (Zs90 _) (fun z96 hz96 => ?_)
            have tz96 := h_rgv hz96
            refine h_call (sp := false) (pc' := 676) (M := [(0, .ref 98), (1, .int z92), (2, .int z94), (3, .int z96)]) rfl rfl rfl rfl rfl rfl rfl rfl ?_
            refine h_iload_n (pc' := 1) rfl rfl rfl ?_
            refine h_iconst (pc' := 2) (x := (Int32.ofInt 1)) rfl rfl rfl ?_
            refine h_cne (tg := 43) (pc' := 5) rfl rfl rfl hz94 ci_1 (fun c97 => absurd (Int.le_antisymm (by omega) (by omega)) c97) (fun c97 => ?_)
            refine h_aload_n (pc' := 6) rfl rfl rfl ?_
            refine h_aload_n (pc' := 7) rfl rfl rfl ?_
            refine h_iload_n (pc' := 8) rfl rfl rfl ?_
            refine h_call (sp := false) (pc' := 11) (M := [(0, .ref 98), (1, .int z92)]) rfl rfl rfl rfl rfl rfl rfl rfl ?_
            refine h_iload_n (pc' := 1) rfl rfl rfl ?_
            refine h_i2l (pc' := 2) rfl rfl hz92 (fun z98 hz98 => ?_)
            refine h_lconst (pc' := 3) (x := (Int64.ofInt 0)) rfl rfl rfl ?_
            refine h_aload_n (pc' := 4) rfl rfl rfl ?_
            refine h_getI (pc' := 7) (v := s0 98 2) rfl rfl rfl rfl rfl es90.2.2.2.2.2.2.2.2.1 (fun z99 hz99 => ?_)
            have tz99 := tf_98_2 I0
            refine h_iconst (pc' := 8) (x := (Int32.ofInt 1)) rfl rfl rfl ?_
            refine h_isub (pc' := 9) rfl rfl hz99 ci_1 rfl (by omega) (by omega) (fun z100 hz100 => ?_)
            refine h_i2l (pc' := 10) rfl rfl hz100 (fun z101 hz101 => ?_)
            refine h_calls (pc' := 13) (M := [(0, .long z98), (2, .long (Int64.ofInt 0)), (4, .long z101)]) rfl rfl rfl rfl rfl rfl ?_
            refine h_lload_n (pc' := 1) rfl rfl rfl ?_
            refine h_lload_n (pc' := 2) rfl rfl rfl ?_
            refine h_lcmp (pc' := 3) rfl rfl hz98 cl_0 (fun z102 hz102 => ?_)
            refine h_zlt (tg := 17) (pc' := 6) rfl rfl rfl rfl (fun c103 => absurd c103 (by omega)) (fun c103 => ?_)
            replace c103 := (h_lcr hz102).2.1 c103
            clear hz102
            refine h_lload_n (pc' := 7) rfl rfl rfl ?_
            refine h_lload (pc' := 9) rfl rfl rfl ?_
            refine h_lcmp (pc' := 10) rfl rfl hz98 hz101 (fun z104 hz104 => ?_)
            refine h_zgt (tg := 17) (pc' := 13) rfl rfl rfl rfl (fun c105 => absurd c105 (by omega)) (fun c105 => ?_)
            replace c105 := (h_lcr hz104).2.2.1 c105
            clear hz104
            refine h_iconst (pc' := 14) (x := (Int32.ofInt 1)) rfl rfl rfl ?_
            refine h_goto (pc' := 18) rfl rfl ?_
            refine h_zret rfl rfl ci_1 (by omega) (h_Kv ?_)
            refine h_zret rfl rfl ci_1 (by omega) (h_Kv ?_)
            refine h_zeq (tg := 32) (pc' := 14) rfl rfl rfl ci_1 (fun c106 => absurd c106 (by omega)) (fun c106 => ?_)
            refine h_iload_n (pc' := 15) rfl rfl rfl ?_
            refine h_bipush (pc' := 17) (x := (Int32.ofInt (-4))) rfl rfl cb_m4 ?_
            refine h_ceq (tg := 28) (pc' := 20) rfl rfl rfl hz96 ci_m4 (fun c107 => ?_) (fun c107 => absurd (Int.le_antisymm (by omega) (by omega)) c107)
            refine h_iconst (pc' := 29) (x := (Int32.ofInt 1)) rfl rfl rfl ?_
            refine h_goto (pc' := 33) rfl rfl ?_
            refine h_bipush (pc' := 35) (x := (Int32.ofInt 29)) rfl rfl cb_29 ?_
            refine h_iload_n (pc' := 36) rfl rfl rfl ?_
            refine h_iadd (pc' := 37) rfl rfl ci_29 hz92 rfl (by have g0 := h_rgv hz92; omega) (by have g0 := h_rgv hz92; omega) (fun z108 hz108 => ?_)
            refine h_iload_n (pc' := 38) rfl rfl rfl ?_
            refine h_iconst (pc' := 39) (x := (Int32.ofInt 1)) rfl rfl rfl ?_
            refine h_call (sp := false) (pc' := 42) (M := [(0, .ref 98), (1, .int (Int32.ofInt 1)), (2, .int z108), (3, .int z96), (4, .int (Int32.ofInt 1))]) rfl rfl rfl rfl rfl rfl rfl rfl ?_
            refine h_iload_n (pc' := 1) rfl rfl rfl ?_
            refine h_zne (tg := 6) (pc' := 4) rfl rfl rfl ci_1 (fun c109 => ?_) (fun c109 => absurd c109 (by omega))
            refine h_iload (pc' := 8) rfl rfl rfl ?_
            refine h_zne (tg := 20) (pc' := 11) rfl rfl rfl ci_1 (fun c110 => ?_) (fun c110 => absurd c110 (by omega))
            refine h_aload_n (pc' := 21) rfl rfl rfl ?_
            refine h_getR (pc' := 24) rfl rfl rfl rfl rfl ?_
            refine h_iload_n (pc' := 25) rfl rfl rfl ?_
            refine h_iald (pc' := 26) (v := s90 99 (29 + (s0 0 (b3 + 1)))) rfl rfl rfl hz108 (by omega) (by omega) rfl (fun z111 hz111 => ?_)
            have tz111 := ty_99_7 Is90 (29 + (s0 0 (b3 + 1))) (by omega)
            refine h_calls (pc' := 29) (M := [(0, .int z111)]) rfl rfl rfl rfl rfl rfl ?_
            refine h_iload_n (pc' := 1) rfl rfl rfl ?_
            refine h_zne (tg := 9) (pc' := 4) rfl rfl rfl hz111 (fun c112 => ?_) (fun c112 => ?_)
            · refine h_iload_n (pc' := 10) rfl rfl rfl ?_
              refine h_iconst (pc' := 11) (x := (Int32.ofInt 1)) rfl rfl rfl ?_
              refine h_isub (pc' := 12) rfl rfl hz111 ci_1 rfl (by omega) (by omega) (fun z113 hz113 => ?_)
              refine h_iret rfl rfl (h_Kv ?_)
              refine h_istore (pc' := 31) (M := [(5, .int z113), (0, .ref 98), (1, .int (Int32.ofInt 1)), (2, .int z108), (3, .int z96), (4, .int (Int32.ofInt 1))]) rfl rfl rfl rfl ?_
              refine h_aload_n (pc' := 32) rfl rfl rfl ?_
              refine h_getR (pc' := 35) rfl rfl rfl rfl rfl ?_
              refine h_iload_n (pc' := 36) rfl rfl rfl ?_
              refine h_iload (pc' := 38) rfl rfl rfl ?_
              refine h_zne (tg := 45) (pc' := 41) rfl rfl rfl ci_1 (fun c114 => ?_) (fun c114 => absurd c114 (by omega))
              refine h_iload_n (pc' := 46) rfl rfl rfl ?_
              refine h_bipush (pc' := 48) (x := (Int32.ofInt (-4))) rfl rfl cb_m4 ?_
              refine h_cne (tg := 55) (pc' := 51) rfl rfl rfl hz96 ci_m4 (fun c115 => absurd (Int.le_antisymm (by omega) (by omega)) c115) (fun c115 => ?_)
              refine h_iconst (pc' := 52) (x := (Int32.ofInt 0)) rfl rfl rfl ?_
              refine h_goto (pc' := 58) rfl rfl ?_
              refine h_iast (pc' := 59) rfl rfl rfl rfl hz108 (by omega) (by omega) ci_0 (h_fgt (E := fun s => s 64 1 = s0 64 1 ∧ s 98 11 = s0 98 11 ∧ s 64 4 = s0 64 4 ∧ s 98 16 = s0 98 16 ∧ s 63 2 = s0 63 2 ∧ s 10 8 = s0 10 8 ∧ s 98 1 = s0 98 1 ∧ s 10 9 = s0 10 9 ∧ s 98 2 = s0 98 2 ∧ s 10 10 = s0 10 10 ∧ s 99 43 = s0 99 43 ∧ s 13 2 = s0 13 2 ∧ s 99 18 = s0 99 18 ∧ s 16 2 = s0 16 2 ∧ s 99 25 = s0 99 25 ∧ s 62 0 = s0 62 0 ∧ s 110 0 = s0 110 0 ∧ s 62 1 = s0 62 1 ∧ s 110 1 = s0 110 1 ∧ s = h_up s90 99 (29 + (s0 0 (b3 + 1))) 0) _ (ip_99_7 Is90 (by omega) (by omega)) (Fs90.up (k_ipg (p := 0) rfl rfl (by omega))) ⟨es90.1, es90.2.1, es90.2.2.1, es90.2.2.2.1, es90.2.2.2.2.1, es90.2.2.2.2.2.1, es90.2.2.2.2.2.2.1, es90.2.2.2.2.2.2.2.1, es90.2.2.2.2.2.2.2.2.1, es90.2.2.2.2.2.2.2.2.2.1, h_up_n2 (by omega) es90.2.2.2.2.2.2.2.2.2.2.1, es90.2.2.2.2.2.2.2.2.2.2.2.1, h_up_n2 (by omega) es90.2.2.2.2.2.2.2.2.2.2.2.2.1, es90.2.2.2.2.2.2.2.2.2.2.2.2.2.1, h_up_n2 (by omega) es90.2.2.2.2.2.2.2.2.2.2.2.2.2.2.1, es90.2.2.2.2.2.2.2.2.2.2.2.2.2.2.2.1, es90.2.2.2.2.2.2.2.2.2.2.2.2.2.2.2.2.1, es90.2.2.2.2.2.2.2.2.2.2.2.2.2.2.2.2.2.1, es90.2.2.2.2.2.2.2.2.2.2.2.2.2.2.2.2.2.2.1, rfl⟩ (fun s116 Is116 Fs116 (es116 : s116 64 1 = s0 64 1 ∧ s116 98 11 = s0 98 11 ∧ s116 64 4 = s0 64 4 ∧ s116 98 16 = s0 98 16 ∧ s116 63 2 = s0 63 2 ∧ s116 10 8 = s0 10 8 ∧ s116 98 1 = s0 98 1 ∧ s116 10 9 = s0 10 9 ∧ s116 98 2 = s0 98 2 ∧ s116 10 10 = s0 10 10 ∧ s116 99 43 = s0 99 43 ∧ s116 13 2 = s0 13 2 ∧ s116 99 18 = s0 99 18 ∧ s116 16 2 = s0 16 2 ∧ s116 99 25 = s0 99 25 ∧ s116 62 0 = s0 62 0 ∧ s116 110 0 = s0 110 0 ∧ s116 62 1 = s0 62 1 ∧ s116 110 1 = s0 110 1 ∧ s116 = h_up s90 99 (29 + (s0 0 (b3 + 1))) 0) => ?_))
              clear es90
              have us116 := es116.2.2.2.2.2.2.2.2.2.2.2.2.2.2.2.2.2.2.2
              have Zs116 : ∀ i, s116 0 i = s0 0 i := fun i => (h_upo us116 rfl i).trans (Zs90 i)
              refine h_iload (pc' := 61) rfl rfl rfl ?_
              refine h_iret rfl rfl (h_Kv ?_)
              refine h_iret rfl rfl (h_Kv ?_)
              refine h_pop (pc' := 677) rfl rfl rfl ?_
              refine h_goto (pc' := 1441) rfl rfl ?_
              exact kk _ Is116 (by first | exact d_tape.le j0 (Int.le_antisymm (by omega) (by omega)) (by omega) (fun j => (h_upo us116 rfl j).trans ((h_upo us90 rfl j))) (fun j => (h_upo us116 rfl j).trans ((h_upo us90 rfl j))) | (exfalso; omega)) (Int.le_antisymm (by omega) (by omega)) (c_R.las j2 I0 (by omega) (by omega) (Int.le_antisymm (by omega) (by omega)) (by omega) (fun j => (h_upo us116 rfl j).trans ((h_upi us90 j)))  (fun j => (h_upi us116 j).trans (congrArg (fun z => if j = (29 + (s0 0 (b3 + 1))) then 0 else z) ((h_upo us90 rfl j))))  (fun p j n0 n1 => (h_upq us116 n1 j).trans ((h_upq us90 n0 j))))
            · refine h_bipush (pc' := 6) (x := (Int32.ofInt (-4))) rfl rfl cb_m4 ?_
              refine h_goto (pc' := 12) rfl rfl ?_
              refine h_iret rfl rfl (h_Kv ?_)
              refine h_istore (pc' := 31) (M := [(5, .int (Int32.ofInt (-4))), (0, .ref 98), (1, .int (Int32.ofInt 1)), (2, .int z108), (3, .int z96), (4, .int (Int32.ofInt 1))]) rfl rfl rfl rfl ?_
              refine h_aload_n (pc' := 32) rfl rfl rfl ?_
              refine h_getR (pc' := 35) rfl rfl rfl rfl rfl ?_
              refine h_iload_n (pc' := 36) rfl rfl rfl ?_
              refine h_iload (pc' := 38) rfl rfl rfl ?_
              refine h_zne (tg := 45) (pc' := 41) rfl rfl rfl ci_1 (fun c117 => ?_) (fun c117 => absurd c117 (by omega))
              refine h_iload_n (pc' := 46) rfl rfl rfl ?_
              refine h_bipush (pc' := 48) (x := (Int32.ofInt (-4))) rfl rfl cb_m4 ?_
              refine h_cne (tg := 55) (pc' := 51) rfl rfl rfl hz96 ci_m4 (fun c118 => absurd (Int.le_antisymm (by omega) (by omega)) c118) (fun c118 => ?_)
              refine h_iconst (pc' := 52) (x := (Int32.ofInt 0)) rfl rfl rfl ?_
              refine h_goto (pc' := 58) rfl rfl ?_
              refine h_iast (pc' := 59) rfl rfl rfl rfl hz108 (by omega) (by omega) ci_0 (h_fgt (E := fun s => s 64 1 = s0 64 1 ∧ s 98 11 = s0 98 11 ∧ s 64 4 = s0 64 4 ∧ s 98 16 = s0 98 16 ∧ s 63 2 = s0 63 2 ∧ s 10 8 = s0 10 8 ∧ s 98 1 = s0 98 1 ∧ s 10 9 = s0 10 9 ∧ s 98 2 = s0 98 2 ∧ s 10 10 = s0 10 10 ∧ s 99 43 = s0 99 43 ∧ s 13 2 = s0 13 2 ∧ s 99 18 = s0 99 18 ∧ s 16 2 = s0 16 2 ∧ s 99 25 = s0 99 25 ∧ s 62 0 = s0 62 0 ∧ s 110 0 = s0 110 0 ∧ s 62 1 = s0 62 1 ∧ s 110 1 = s0 110 1 ∧ s = h_up s90 99 (29 + (s0 0 (b3 + 1))) 0) _ (ip_99_7 Is90 (by omega) (by omega)) (Fs90.up (k_ipg (p := 0) rfl rfl (by omega))) ⟨es90.1, es90.2.1, es90.2.2.1, es90.2.2.2.1, es90.2.2.2.2.1, es90.2.2.2.2.2.1, es90.2.2.2.2.2.2.1, es90.2.2.2.2.2.2.2.1, es90.2.2.2.2.2.2.2.2.1, es90.2.2.2.2.2.2.2.2.2.1, h_up_n2 (by omega) es90.2.2.2.2.2.2.2.2.2.2.1, es90.2.2.2.2.2.2.2.2.2.2.2.1, h_up_n2 (by omega) es90.2.2.2.2.2.2.2.2.2.2.2.2.1, es90.2.2.2.2.2.2.2.2.2.2.2.2.2.1, h_up_n2 (by omega) es90.2.2.2.2.2.2.2.2.2.2.2.2.2.2.1, es90.2.2.2.2.2.2.2.2.2.2.2.2.2.2.2.1, es90.2.2.2.2.2.2.2.2.2.2.2.2.2.2.2.2.1, es90.2.2.2.2.2.2.2.2.2.2.2.2.2.2.2.2.2.1, es90.2.2.2.2.2.2.2.2.2.2.2.2.2.2.2.2.2.2.1, rfl⟩ (fun s119 Is119 Fs119 (es119 : s119 64 1 = s0 64 1 ∧ s119 98 11 = s0 98 11 ∧ s119 64 4 = s0 64 4 ∧ s119 98 16 = s0 98 16 ∧ s119 63 2 = s0 63 2 ∧ s119 10 8 = s0 10 8 ∧ s119 98 1 = s0 98 1 ∧ s119 10 9 = s0 10 9 ∧ s119 98 2 = s0 98 2 ∧ s119 10 10 = s0 10 10 ∧ s119 99 43 = s0 99 43 ∧ s119 13 2 = s0 13 2 ∧ s119 99 18 = s0 99 18 ∧ s119 16 2 = s0 16 2 ∧ s119 99 25 = s0 99 25 ∧ s119 62 0 = s0 62 0 ∧ s119 110 0 = s0 110 0 ∧ s119 62 1 = s0 62 1 ∧ s119 110 1 = s0 110 1 ∧ s119 = h_up s90 99 (29 + (s0 0 (b3 + 1))) 0) => ?_))
              clear es90
              have us119 := es119.2.2.2.2.2.2.2.2.2.2.2.2.2.2.2.2.2.2.2
              have Zs119 : ∀ i, s119 0 i = s0 0 i := fun i => (h_upo us119 rfl i).trans (Zs90 i)
              refine h_iload (pc' := 61) rfl rfl rfl ?_
              refine h_iret rfl rfl (h_Kv ?_)
              refine h_iret rfl rfl (h_Kv ?_)
              refine h_pop (pc' := 677) rfl rfl rfl ?_
              refine h_goto (pc' := 1441) rfl rfl ?_
              exact kk _ Is119 (by first | exact d_tape.le j0 (Int.le_antisymm (by omega) (by omega)) (by omega) (fun j => (h_upo us119 rfl j).trans ((h_upo us90 rfl j))) (fun j => (h_upo us119 rfl j).trans ((h_upo us90 rfl j))) | (exfalso; omega)) (Int.le_antisymm (by omega) (by omega)) (c_R.las j2 I0 (by omega) (by omega) (Int.le_antisymm (by omega) (by omega)) (by omega) (fun j => (h_upo us119 rfl j).trans ((h_upi us90 j)))  (fun j => (h_upi us119 j).trans (congrArg (fun z => if j = (29 + (s0 0 (b3 + 1))) then 0 else z) ((h_upo us90 rfl j))))  (fun p j n0 n1 => (h_upq us119 n1 j).trans ((h_upq us90 n0 j))))
          · refine h_aload_n (pc' := 63) rfl rfl rfl ?_
            refine h_getR (pc' := 66) rfl rfl rfl rfl rfl ?_
            refine h_iload_n (pc' := 67) rfl rfl rfl ?_
            refine h_call (sp := false) (pc' := 70) (M := [(0, .ref 10), (1, .int z6)]) rfl rfl rfl rfl rfl rfl rfl rfl ?_
            refine h_iload_n (pc' := 1) rfl rfl rfl ?_
            refine h_zlt (tg := 16) (pc' := 4) rfl rfl rfl hz6 (fun c120 => ?_) (fun c120 => ?_)
            · refine h_iconst (pc' := 17) (x := (Int32.ofInt 0)) rfl rfl rfl ?_
              refine h_zret rfl rfl ci_0 (by omega) (h_Kv ?_)
              refine h_zeq (tg := 97) (pc' := 73) rfl rfl rfl ci_0 (fun c121 => ?_) (fun c121 => absurd (Int.le_antisymm (by omega) (by omega)) c121)
              refine h_iconst (pc' := 98) (x := (Int32.ofInt (-1))) rfl rfl rfl ?_
              refine h_iret rfl rfl (h_Kv ?_)
              refine h_pop (pc' := 657) rfl rfl rfl ?_
              refine h_aload_n (pc' := 658) rfl rfl rfl ?_
              refine h_aload_n (pc' := 659) rfl rfl rfl ?_
              refine h_iload_n (pc' := 660) rfl rfl rfl ?_
              refine h_iconst (pc' := 661) (x := (Int32.ofInt 1)) rfl rfl rfl ?_
              refine h_iadd (pc' := 662) rfl rfl hy3 ci_1 rfl (by omega) (by omega) (fun z122 hz122 => ?_)
              refine h_iald (pc' := 663) (v := s0 0 (b3 + 1)) rfl rfl rfl hz122 (by omega) (by omega) rfl (fun z123 hz123 => ?_)
              have tz123 := h_rgv hz123
              refine h_aload_n (pc' := 664) rfl rfl rfl ?_
              refine h_iload_n (pc' := 665) rfl rfl rfl ?_
              refine h_iconst (pc' := 666) (x := (Int32.ofInt 2)) rfl rfl rfl ?_
              refine h_iadd (pc' := 667) rfl rfl hy3 ci_2 rfl (by omega) (by omega) (fun z124 hz124 => ?_)
              refine h_iald (pc' := 668) (v := s0 0 (b3 + 2)) rfl rfl rfl hz124 (by omega) (by omega) rfl (fun z125 hz125 => ?_)
              have tz125 := h_rgv hz125
              refine h_aload_n (pc' := 669) rfl rfl rfl ?_
              refine h_iload_n (pc' := 670) rfl rfl rfl ?_
              refine h_iconst (pc' := 671) (x := (Int32.ofInt 3)) rfl rfl rfl ?_
              refine h_iadd (pc' := 672) rfl rfl hy3 ci_3 rfl (by omega) (by omega) (fun z126 hz126 => ?_)
              refine h_iald (pc' := 673) (v := s0 0 (b3 + 3)) rfl rfl rfl hz126 (by omega) (by omega) rfl (fun z127 hz127 => ?_)
              have tz127 := h_rgv hz127
              refine h_call (sp := false) (pc' := 676) (M := [(0, .ref 98), (1, .int z123), (2, .int z125), (3, .int z127)]) rfl rfl rfl rfl rfl rfl rfl rfl ?_
              refine h_iload_n (pc' := 1) rfl rfl rfl ?_
              refine h_iconst (pc' := 2) (x := (Int32.ofInt 1)) rfl rfl rfl ?_
              refine h_cne (tg := 43) (pc' := 5) rfl rfl rfl hz125 ci_1 (fun c128 => absurd (Int.le_antisymm (by omega) (by omega)) c128) (fun c128 => ?_)
              refine h_aload_n (pc' := 6) rfl rfl rfl ?_
              refine h_aload_n (pc' := 7) rfl rfl rfl ?_
              refine h_iload_n (pc' := 8) rfl rfl rfl ?_
              refine h_call (sp := false) (pc' := 11) (M := [(0, .ref 98), (1, .int z123)]) rfl rfl rfl rfl rfl rfl rfl rfl ?_
              refine h_iload_n (pc' := 1) rfl rfl rfl ?_
              refine h_i2l (pc' := 2) rfl rfl hz123 (fun z129 hz129 => ?_)
              refine h_lconst (pc' := 3) (x := (Int64.ofInt 0)) rfl rfl rfl ?_
              refine h_aload_n (pc' := 4) rfl rfl rfl ?_
              refine h_getI (pc' := 7) (v := s0 98 2) rfl rfl rfl rfl rfl rfl (fun z130 hz130 => ?_)
              have tz130 := tf_98_2 I0
              refine h_iconst (pc' := 8) (x := (Int32.ofInt 1)) rfl rfl rfl ?_
              refine h_isub (pc' := 9) rfl rfl hz130 ci_1 rfl (by omega) (by omega) (fun z131 hz131 => ?_)
              refine h_i2l (pc' := 10) rfl rfl hz131 (fun z132 hz132 => ?_)
              refine h_calls (pc' := 13) (M := [(0, .long z129), (2, .long (Int64.ofInt 0)), (4, .long z132)]) rfl rfl rfl rfl rfl rfl ?_
              refine h_lload_n (pc' := 1) rfl rfl rfl ?_
              refine h_lload_n (pc' := 2) rfl rfl rfl ?_
              refine h_lcmp (pc' := 3) rfl rfl hz129 cl_0 (fun z133 hz133 => ?_)
              refine h_zlt (tg := 17) (pc' := 6) rfl rfl rfl rfl (fun c134 => absurd c134 (by omega)) (fun c134 => ?_)
              replace c134 := (h_lcr hz133).2.1 c134
              clear hz133
              refine h_lload_n (pc' := 7) rfl rfl rfl ?_
              refine h_lload (pc' := 9) rfl rfl rfl ?_
              refine h_lcmp (pc' := 10) rfl rfl hz129 hz132 (fun z135 hz135 => ?_)
              refine h_zgt (tg := 17) (pc' := 13) rfl rfl rfl rfl (fun c136 => absurd c136 (by omega)) (fun c136 => ?_)
              replace c136 := (h_lcr hz135).2.2.1 c136
              clear hz135
              refine h_iconst (pc' := 14) (x := (Int32.ofInt 1)) rfl rfl rfl ?_
              refine h_goto (pc' := 18) rfl rfl ?_
              refine h_zret rfl rfl ci_1 (by omega) (h_Kv ?_)
              refine h_zret rfl rfl ci_1 (by omega) (h_Kv ?_)
              refine h_zeq (tg := 32) (pc' := 14) rfl rfl rfl ci_1 (fun c137 => absurd c137 (by omega)) (fun c137 => ?_)
              refine h_iload_n (pc' := 15) rfl rfl rfl ?_
              refine h_bipush (pc' := 17) (x := (Int32.ofInt (-4))) rfl rfl cb_m4 ?_
              refine h_ceq (tg := 28) (pc' := 20) rfl rfl rfl hz127 ci_m4 (fun c138 => absurd c138 (by omega)) (fun c138 => ?_)
              refine h_aload_n (pc' := 21) rfl rfl rfl ?_
              refine h_iload_n (pc' := 22) rfl rfl rfl ?_
              refine h_call (sp := false) (pc' := 25) (M := [(0, .ref 98), (1, .int z127)]) rfl rfl rfl rfl rfl rfl rfl rfl ?_
              refine h_iload_n (pc' := 1) rfl rfl rfl ?_
              refine h_i2l (pc' := 2) rfl rfl hz127 (fun z139 hz139 => ?_)
              refine h_lconst (pc' := 3) (x := (Int64.ofInt 0)) rfl rfl rfl ?_
              refine h_aload_n (pc' := 4) rfl rfl rfl ?_
              refine h_getI (pc' := 7) (v := s0 98 1) rfl rfl rfl rfl rfl rfl (fun z140 hz140 => ?_)
              have tz140 := tf_98_1 I0
              refine h_iconst (pc' := 8) (x := (Int32.ofInt 1)) rfl rfl rfl ?_
              refine h_isub (pc' := 9) rfl rfl hz140 ci_1 rfl (by omega) (by omega) (fun z141 hz141 => ?_)
              refine h_i2l (pc' := 10) rfl rfl hz141 (fun z142 hz142 => ?_)
              refine h_calls (pc' := 13) (M := [(0, .long z139), (2, .long (Int64.ofInt 0)), (4, .long z142)]) rfl rfl rfl rfl rfl rfl ?_
              refine h_lload_n (pc' := 1) rfl rfl rfl ?_
              refine h_lload_n (pc' := 2) rfl rfl rfl ?_
              refine h_lcmp (pc' := 3) rfl rfl hz139 cl_0 (fun z143 hz143 => ?_)
              refine h_zlt (tg := 17) (pc' := 6) rfl rfl rfl rfl (fun c144 => ?_) (fun c144 => absurd c144 (by omega))
              replace c144 := (h_lcr hz143).1 c144
              clear hz143
              refine h_iconst (pc' := 18) (x := (Int32.ofInt 0)) rfl rfl rfl ?_
              refine h_zret rfl rfl ci_0 (by omega) (h_Kv ?_)
              refine h_zret rfl rfl ci_0 (by omega) (h_Kv ?_)
              refine h_zeq (tg := 32) (pc' := 28) rfl rfl rfl ci_0 (fun c145 => ?_) (fun c145 => absurd (Int.le_antisymm (by omega) (by omega)) c145)
              refine h_iconst (pc' := 33) (x := (Int32.ofInt 0)) rfl rfl rfl ?_
              refine h_bipush (pc' := 35) (x := (Int32.ofInt 29)) rfl rfl cb_29 ?_
              refine h_iload_n (pc' := 36) rfl rfl rfl ?_
              refine h_iadd (pc' := 37) rfl rfl ci_29 hz123 rfl (by have g0 := h_rgv hz123; omega) (by have g0 := h_rgv hz123; omega) (fun z146 hz146 => ?_)
              refine h_iload_n (pc' := 38) rfl rfl rfl ?_
              refine h_iconst (pc' := 39) (x := (Int32.ofInt 1)) rfl rfl rfl ?_
              refine h_call (sp := false) (pc' := 42) (M := [(0, .ref 98), (1, .int (Int32.ofInt 0)), (2, .int z146), (3, .int z127), (4, .int (Int32.ofInt 1))]) rfl rfl rfl rfl rfl rfl rfl rfl ?_
              refine h_iload_n (pc' := 1) rfl rfl rfl ?_
              refine h_zne (tg := 6) (pc' := 4) rfl rfl rfl ci_0 (fun c147 => absurd (Int.le_antisymm (by omega) (by omega)) c147) (fun c147 => ?_)
              refine h_iconst (pc' := 5) (x := (Int32.ofInt (-1))) rfl rfl rfl ?_
              refine h_iret rfl rfl (h_Kv ?_)
              refine h_iret rfl rfl (h_Kv ?_)
              refine h_pop (pc' := 677) rfl rfl rfl ?_
              refine h_goto (pc' := 1441) rfl rfl ?_
              exact kk _ I0 (by first | exact d_tape.le j0 (Int.le_antisymm (by omega) (by omega)) (by omega) (fun j => rfl) (fun j => rfl) | (exfalso; omega)) (Int.le_antisymm (by omega) (by omega)) j2
            · refine h_iload_n (pc' := 5) rfl rfl rfl ?_
              refine h_aload_n (pc' := 6) rfl rfl rfl ?_
              refine h_getI (pc' := 9) (v := s0 10 8) rfl rfl rfl rfl rfl rfl (fun z148 hz148 => ?_)
              have tz148 := tf_10_8 I0
              refine h_cge (tg := 16) (pc' := 12) rfl rfl rfl hz6 hz148 (fun c149 => ?_) (fun c149 => ?_)
              · refine h_iconst (pc' := 17) (x := (Int32.ofInt 0)) rfl rfl rfl ?_
                refine h_zret rfl rfl ci_0 (by omega) (h_Kv ?_)
                refine h_zeq (tg := 97) (pc' := 73) rfl rfl rfl ci_0 (fun c150 => ?_) (fun c150 => absurd (Int.le_antisymm (by omega) (by omega)) c150)
                refine h_iconst (pc' := 98) (x := (Int32.ofInt (-1))) rfl rfl rfl ?_
                refine h_iret rfl rfl (h_Kv ?_)
                refine h_pop (pc' := 657) rfl rfl rfl ?_
                refine h_aload_n (pc' := 658) rfl rfl rfl ?_
                refine h_aload_n (pc' := 659) rfl rfl rfl ?_
                refine h_iload_n (pc' := 660) rfl rfl rfl ?_
                refine h_iconst (pc' := 661) (x := (Int32.ofInt 1)) rfl rfl rfl ?_
                refine h_iadd (pc' := 662) rfl rfl hy3 ci_1 rfl (by omega) (by omega) (fun z151 hz151 => ?_)
                refine h_iald (pc' := 663) (v := s0 0 (b3 + 1)) rfl rfl rfl hz151 (by omega) (by omega) rfl (fun z152 hz152 => ?_)
                have tz152 := h_rgv hz152
                refine h_aload_n (pc' := 664) rfl rfl rfl ?_
                refine h_iload_n (pc' := 665) rfl rfl rfl ?_
                refine h_iconst (pc' := 666) (x := (Int32.ofInt 2)) rfl rfl rfl ?_
                refine h_iadd (pc' := 667) rfl rfl hy3 ci_2 rfl (by omega) (by omega) (fun z153 hz153 => ?_)
                refine h_iald (pc' := 668) (v := s0 0 (b3 + 2)) rfl rfl rfl hz153 (by omega) (by omega) rfl (fun z154 hz154 => ?_)
                have tz154 := h_rgv hz154
                refine h_aload_n (pc' := 669) rfl rfl rfl ?_
                refine h_iload_n (pc' := 670) rfl rfl rfl ?_
                refine h_iconst (pc' := 671) (x := (Int32.ofInt 3)) rfl rfl rfl ?_
                refine h_iadd (pc' := 672) rfl rfl hy3 ci_3 rfl (by omega) (by omega) (fun z155 hz155 => ?_)
                refine h_iald (pc' := 673) (v := s0 0 (b3 + 3)) rfl rfl rfl hz155 (by omega) (by omega) rfl (fun z156 hz156 => ?_)
                have tz156 := h_rgv hz156
                refine h_call (sp := false) (pc' := 676) (M := [(0, .ref 98), (1, .int z152), (2, .int z154), (3, .int z156)]) rfl rfl rfl rfl rfl rfl rfl rfl ?_
                refine h_iload_n (pc' := 1) rfl rfl rfl ?_
                refine h_iconst (pc' := 2) (x := (Int32.ofInt 1)) rfl rfl rfl ?_
                refine h_cne (tg := 43) (pc' := 5) rfl rfl rfl hz154 ci_1 (fun c157 => absurd (Int.le_antisymm (by omega) (by omega)) c157) (fun c157 => ?_)
                refine h_aload_n (pc' := 6) rfl rfl rfl ?_
                refine h_aload_n (pc' := 7) rfl rfl rfl ?_
                refine h_iload_n (pc' := 8) rfl rfl rfl ?_
                refine h_call (sp := false) (pc' := 11) (M := [(0, .ref 98), (1, .int z152)]) rfl rfl rfl rfl rfl rfl rfl rfl ?_
                refine h_iload_n (pc' := 1) rfl rfl rfl ?_
                refine h_i2l (pc' := 2) rfl rfl hz152 (fun z158 hz158 => ?_)
                refine h_lconst (pc' := 3) (x := (Int64.ofInt 0)) rfl rfl rfl ?_
                refine h_aload_n (pc' := 4) rfl rfl rfl ?_
                refine h_getI (pc' := 7) (v := s0 98 2) rfl rfl rfl rfl rfl rfl (fun z159 hz159 => ?_)
                have tz159 := tf_98_2 I0
                refine h_iconst (pc' := 8) (x := (Int32.ofInt 1)) rfl rfl rfl ?_
                refine h_isub (pc' := 9) rfl rfl hz159 ci_1 rfl (by omega) (by omega) (fun z160 hz160 => ?_)
                refine h_i2l (pc' := 10) rfl rfl hz160 (fun z161 hz161 => ?_)
                refine h_calls (pc' := 13) (M := [(0, .long z158), (2, .long (Int64.ofInt 0)), (4, .long z161)]) rfl rfl rfl rfl rfl rfl ?_
                refine h_lload_n (pc' := 1) rfl rfl rfl ?_
                refine h_lload_n (pc' := 2) rfl rfl rfl ?_
                refine h_lcmp (pc' := 3) rfl rfl hz158 cl_0 (fun z162 hz162 => ?_)
                refine h_zlt (tg := 17) (pc' := 6) rfl rfl rfl rfl (fun c163 => absurd c163 (by omega)) (fun c163 => ?_)
                replace c163 := (h_lcr hz162).2.1 c163
                clear hz162
                refine h_lload_n (pc' := 7) rfl rfl rfl ?_
                refine h_lload (pc' := 9) rfl rfl rfl ?_
                refine h_lcmp (pc' := 10) rfl rfl hz158 hz161 (fun z164 hz164 => ?_)
                refine h_zgt (tg := 17) (pc' := 13) rfl rfl rfl rfl (fun c165 => absurd c165 (by omega)) (fun c165 => ?_)
                replace c165 := (h_lcr hz164).2.2.1 c165
                clear hz164
                refine h_iconst (pc' := 14) (x := (Int32.ofInt 1)) rfl rfl rfl ?_
                refine h_goto (pc' := 18) rfl rfl ?_
                refine h_zret rfl rfl ci_1 (by omega) (h_Kv ?_)
                refine h_zret rfl rfl ci_1 (by omega) (h_Kv ?_)
                refine h_zeq (tg := 32) (pc' := 14) rfl rfl rfl ci_1 (fun c166 => absurd c166 (by omega)) (fun c166 => ?_)
                refine h_iload_n (pc' := 15) rfl rfl rfl ?_
                refine h_bipush (pc' := 17) (x := (Int32.ofInt (-4))) rfl rfl cb_m4 ?_
                refine h_ceq (tg := 28) (pc' := 20) rfl rfl rfl hz156 ci_m4 (fun c167 => absurd c167 (by omega)) (fun c167 => ?_)
                refine h_aload_n (pc' := 21) rfl rfl rfl ?_
                refine h_iload_n (pc' := 22) rfl rfl rfl ?_
                refine h_call (sp := false) (pc' := 25) (M := [(0, .ref 98), (1, .int z156)]) rfl rfl rfl rfl rfl rfl rfl rfl ?_
                refine h_iload_n (pc' := 1) rfl rfl rfl ?_
                refine h_i2l (pc' := 2) rfl rfl hz156 (fun z168 hz168 => ?_)
                refine h_lconst (pc' := 3) (x := (Int64.ofInt 0)) rfl rfl rfl ?_
                refine h_aload_n (pc' := 4) rfl rfl rfl ?_
                refine h_getI (pc' := 7) (v := s0 98 1) rfl rfl rfl rfl rfl rfl (fun z169 hz169 => ?_)
                have tz169 := tf_98_1 I0
                refine h_iconst (pc' := 8) (x := (Int32.ofInt 1)) rfl rfl rfl ?_
                refine h_isub (pc' := 9) rfl rfl hz169 ci_1 rfl (by omega) (by omega) (fun z170 hz170 => ?_)
                refine h_i2l (pc' := 10) rfl rfl hz170 (fun z171 hz171 => ?_)
                refine h_calls (pc' := 13) (M := [(0, .long z168), (2, .long (Int64.ofInt 0)), (4, .long z171)]) rfl rfl rfl rfl rfl rfl ?_
                refine h_lload_n (pc' := 1) rfl rfl rfl ?_
                refine h_lload_n (pc' := 2) rfl rfl rfl ?_
                refine h_lcmp (pc' := 3) rfl rfl hz168 cl_0 (fun z172 hz172 => ?_)
                refine h_zlt (tg := 17) (pc' := 6) rfl rfl rfl rfl (fun c173 => absurd c173 (by omega)) (fun c173 => ?_)
                replace c173 := (h_lcr hz172).2.1 c173
                clear hz172
                refine h_lload_n (pc' := 7) rfl rfl rfl ?_
                refine h_lload (pc' := 9) rfl rfl rfl ?_
                refine h_lcmp (pc' := 10) rfl rfl hz168 hz171 (fun z174 hz174 => ?_)
                refine h_zgt (tg := 17) (pc' := 13) rfl rfl rfl rfl (fun c175 => ?_) (fun c175 => absurd c175 (by omega))
                replace c175 := (h_lcr hz174).2.2.2.1 c175
                clear hz174
                refine h_iconst (pc' := 18) (x := (Int32.ofInt 0)) rfl rfl rfl ?_
                refine h_zret rfl rfl ci_0 (by omega) (h_Kv ?_)
                refine h_zret rfl rfl ci_0 (by omega) (h_Kv ?_)
                refine h_zeq (tg := 32) (pc' := 28) rfl rfl rfl ci_0 (fun c176 => ?_) (fun c176 => absurd (Int.le_antisymm (by omega) (by omega)) c176)
                refine h_iconst (pc' := 33) (x := (Int32.ofInt 0)) rfl rfl rfl ?_
                refine h_bipush (pc' := 35) (x := (Int32.ofInt 29)) rfl rfl cb_29 ?_
                refine h_iload_n (pc' := 36) rfl rfl rfl ?_
                refine h_iadd (pc' := 37) rfl rfl ci_29 hz152 rfl (by have g0 := h_rgv hz152; omega) (by have g0 := h_rgv hz152; omega) (fun z177 hz177 => ?_)
                refine h_iload_n (pc' := 38) rfl rfl rfl ?_
                refine h_iconst (pc' := 39) (x := (Int32.ofInt 1)) rfl rfl rfl ?_
                refine h_call (sp := false) (pc' := 42) (M := [(0, .ref 98), (1, .int (Int32.ofInt 0)), (2, .int z177), (3, .int z156), (4, .int (Int32.ofInt 1))]) rfl rfl rfl rfl rfl rfl rfl rfl ?_
                refine h_iload_n (pc' := 1) rfl rfl rfl ?_
                refine h_zne (tg := 6) (pc' := 4) rfl rfl rfl ci_0 (fun c178 => absurd (Int.le_antisymm (by omega) (by omega)) c178) (fun c178 => ?_)
                refine h_iconst (pc' := 5) (x := (Int32.ofInt (-1))) rfl rfl rfl ?_
                refine h_iret rfl rfl (h_Kv ?_)
                refine h_iret rfl rfl (h_Kv ?_)
                refine h_pop (pc' := 677) rfl rfl rfl ?_
                refine h_goto (pc' := 1441) rfl rfl ?_
                exact kk _ I0 (by first | exact d_tape.le j0 (Int.le_antisymm (by omega) (by omega)) (by omega) (fun j => rfl) (fun j => rfl) | (exfalso; omega)) (Int.le_antisymm (by omega) (by omega)) j2
              · refine h_iconst (pc' := 13) (x := (Int32.ofInt 1)) rfl rfl rfl ?_
                refine h_goto (pc' := 17) rfl rfl ?_
                refine h_zret rfl rfl ci_1 (by omega) (h_Kv ?_)
                refine h_zeq (tg := 97) (pc' := 73) rfl rfl rfl ci_1 (fun c179 => absurd c179 (by omega)) (fun c179 => ?_)
                refine h_aload_n (pc' := 74) rfl rfl rfl ?_
                refine h_getR (pc' := 77) rfl rfl rfl rfl rfl ?_
                refine h_getR (pc' := 80) rfl rfl rfl rfl rfl ?_
                refine h_iload_n (pc' := 81) rfl rfl rfl ?_
                refine h_iald (pc' := 82) (v := s0 20 (s0 0 (b3 + 1))) rfl rfl rfl hz2 (by omega) (by omega) rfl (fun z180 hz180 => ?_)
                have tz180 := ty_20 I0 (s0 0 (b3 + 1))
                refine h_istore (pc' := 84) (M := [(4, .int z180), (0, .ref 9), (1, .int z2), (2, .int z4), (3, .int z6)]) rfl rfl rfl rfl ?_
                refine h_aload_n (pc' := 85) rfl rfl rfl ?_
                refine h_getR (pc' := 88) rfl rfl rfl rfl rfl ?_
                refine h_getR (pc' := 91) rfl rfl rfl rfl rfl ?_
                refine h_iload_n (pc' := 92) rfl rfl rfl ?_
                refine h_iload_n (pc' := 93) rfl rfl rfl ?_
                refine h_iast (pc' := 94) rfl rfl rfl rfl hz2 (by omega) (by omega) hz6 (h_fgt (E := fun s => s 64 1 = s0 64 1 ∧ s 98 11 = s0 98 11 ∧ s 64 4 = s0 64 4 ∧ s 98 16 = s0 98 16 ∧ s 63 2 = s0 63 2 ∧ s 10 8 = s0 10 8 ∧ s 98 1 = s0 98 1 ∧ s 10 9 = s0 10 9 ∧ s 98 2 = s0 98 2 ∧ s 10 10 = s0 10 10 ∧ s 99 43 = s0 99 43 ∧ s 13 2 = s0 13 2 ∧ s 99 18 = s0 99 18 ∧ s 16 2 = s0 16 2 ∧ s 99 25 = s0 99 25 ∧ s 62 0 = s0 62 0 ∧ s 110 0 = s0 110 0 ∧ s 62 1 = s0 62 1 ∧ s 110 1 = s0 110 1 ∧ s = h_up s0 20 (s0 0 (b3 + 1)) (s0 0 (b3 + 3))) _ (in_20 I0 (by omega)) (F0_.up rfl) ⟨rfl, rfl, rfl, rfl, rfl, rfl, rfl, rfl, rfl, rfl, rfl, rfl, rfl, rfl, rfl, rfl, rfl, rfl, rfl, rfl⟩ (fun s181 Is181 Fs181 (es181 : s181 64 1 = s0 64 1 ∧ s181 98 11 = s0 98 11 ∧ s181 64 4 = s0 64 4 ∧ s181 98 16 = s0 98 16 ∧ s181 63 2 = s0 63 2 ∧ s181 10 8 = s0 10 8 ∧ s181 98 1 = s0 98 1 ∧ s181 10 9 = s0 10 9 ∧ s181 98 2 = s0 98 2 ∧ s181 10 10 = s0 10 10 ∧ s181 99 43 = s0 99 43 ∧ s181 13 2 = s0 13 2 ∧ s181 99 18 = s0 99 18 ∧ s181 16 2 = s0 16 2 ∧ s181 99 25 = s0 99 25 ∧ s181 62 0 = s0 62 0 ∧ s181 110 0 = s0 110 0 ∧ s181 62 1 = s0 62 1 ∧ s181 110 1 = s0 110 1 ∧ s181 = h_up s0 20 (s0 0 (b3 + 1)) (s0 0 (b3 + 3))) => ?_))
                have us181 := es181.2.2.2.2.2.2.2.2.2.2.2.2.2.2.2.2.2.2.2
                have Zs181 : ∀ i, s181 0 i = s0 0 i := fun i => (h_upo us181 rfl i).trans rfl
                refine h_iload (pc' := 96) rfl rfl rfl ?_
                refine h_iret rfl rfl (h_Kv ?_)
                refine h_pop (pc' := 657) rfl rfl rfl ?_
                refine h_aload_n (pc' := 658) rfl rfl rfl ?_
                refine h_aload_n (pc' := 659) rfl rfl rfl ?_
                refine h_iload_n (pc' := 660) rfl rfl rfl ?_
                refine h_iconst (pc' := 661) (x := (Int32.ofInt 1)) rfl rfl rfl ?_
                refine h_iadd (pc' := 662) rfl rfl hy3 ci_1 rfl (by omega) (by omega) (fun z182 hz182 => ?_)
                refine h_iald (pc' := 663) (v := s0 0 (b3 + 1)) rfl rfl rfl hz182 (by omega) (by omega) (Zs181 _) (fun z183 hz183 => ?_)
                have tz183 := h_rgv hz183
                refine h_aload_n (pc' := 664) rfl rfl rfl ?_
                refine h_iload_n (pc' := 665) rfl rfl rfl ?_
                refine h_iconst (pc' := 666) (x := (Int32.ofInt 2)) rfl rfl rfl ?_
                refine h_iadd (pc' := 667) rfl rfl hy3 ci_2 rfl (by omega) (by omega) (fun z184 hz184 => ?_)
                refine h_iald (pc' := 668) (v := s0 0 (b3 + 2)) rfl rfl rfl hz184 (by omega) (by omega) (Zs181 _) (fun z185 hz185 => ?_)
                have tz185 := h_rgv hz185
                refine h_aload_n (pc' := 669) rfl rfl rfl ?_
                refine h_iload_n (pc' := 670) rfl rfl rfl ?_
                refine h_iconst (pc' := 671) (x := (Int32.ofInt 3)) rfl rfl rfl ?_
                refine h_iadd (pc' := 672) rfl rfl hy3 ci_3 rfl (by omega) (by omega) (fun z186 hz186 => ?_)
                refine h_iald (pc' := 673) (v := s0 0 (b3 + 3)) rfl rfl rfl hz186 (by omega) (by omega) (Zs181 _) (fun z187 hz187 => ?_)
                have tz187 := h_rgv hz187
                refine h_call (sp := false) (pc' := 676) (M := [(0, .ref 98), (1, .int z183), (2, .int z185), (3, .int z187)]) rfl rfl rfl rfl rfl rfl rfl rfl ?_
                refine h_iload_n (pc' := 1) rfl rfl rfl ?_
                refine h_iconst (pc' := 2) (x := (Int32.ofInt 1)) rfl rfl rfl ?_
                refine h_cne (tg := 43) (pc' := 5) rfl rfl rfl hz185 ci_1 (fun c188 => absurd (Int.le_antisymm (by omega) (by omega)) c188) (fun c188 => ?_)
                refine h_aload_n (pc' := 6) rfl rfl rfl ?_
                refine h_aload_n (pc' := 7) rfl rfl rfl ?_
                refine h_iload_n (pc' := 8) rfl rfl rfl ?_
                refine h_call (sp := false) (pc' := 11) (M := [(0, .ref 98), (1, .int z183)]) rfl rfl rfl rfl rfl rfl rfl rfl ?_
                refine h_iload_n (pc' := 1) rfl rfl rfl ?_
                refine h_i2l (pc' := 2) rfl rfl hz183 (fun z189 hz189 => ?_)
                refine h_lconst (pc' := 3) (x := (Int64.ofInt 0)) rfl rfl rfl ?_
                refine h_aload_n (pc' := 4) rfl rfl rfl ?_
                refine h_getI (pc' := 7) (v := s0 98 2) rfl rfl rfl rfl rfl es181.2.2.2.2.2.2.2.2.1 (fun z190 hz190 => ?_)
                have tz190 := tf_98_2 I0
                refine h_iconst (pc' := 8) (x := (Int32.ofInt 1)) rfl rfl rfl ?_
                refine h_isub (pc' := 9) rfl rfl hz190 ci_1 rfl (by omega) (by omega) (fun z191 hz191 => ?_)
                refine h_i2l (pc' := 10) rfl rfl hz191 (fun z192 hz192 => ?_)
                refine h_calls (pc' := 13) (M := [(0, .long z189), (2, .long (Int64.ofInt 0)), (4, .long z192)]) rfl rfl rfl rfl rfl rfl ?_
                refine h_lload_n (pc' := 1) rfl rfl rfl ?_
                refine h_lload_n (pc' := 2) rfl rfl rfl ?_
                refine h_lcmp (pc' := 3) rfl rfl hz189 cl_0 (fun z193 hz193 => ?_)
                refine h_zlt (tg := 17) (pc' := 6) rfl rfl rfl rfl (fun c194 => absurd c194 (by omega)) (fun c194 => ?_)
                replace c194 := (h_lcr hz193).2.1 c194
                clear hz193
                refine h_lload_n (pc' := 7) rfl rfl rfl ?_
                refine h_lload (pc' := 9) rfl rfl rfl ?_
                refine h_lcmp (pc' := 10) rfl rfl hz189 hz192 (fun z195 hz195 => ?_)
                refine h_zgt (tg := 17) (pc' := 13) rfl rfl rfl rfl (fun c196 => absurd c196 (by omega)) (fun c196 => ?_)
                replace c196 := (h_lcr hz195).2.2.1 c196
                clear hz195
                refine h_iconst (pc' := 14) (x := (Int32.ofInt 1)) rfl rfl rfl ?_
                refine h_goto (pc' := 18) rfl rfl ?_
                refine h_zret rfl rfl ci_1 (by omega) (h_Kv ?_)
                refine h_zret rfl rfl ci_1 (by omega) (h_Kv ?_)
                refine h_zeq (tg := 32) (pc' := 14) rfl rfl rfl ci_1 (fun c197 => absurd c197 (by omega)) (fun c197 => ?_)
                refine h_iload_n (pc' := 15) rfl rfl rfl ?_
                refine h_bipush (pc' := 17) (x := (Int32.ofInt (-4))) rfl rfl cb_m4 ?_
                refine h_ceq (tg := 28) (pc' := 20) rfl rfl rfl hz187 ci_m4 (fun c198 => absurd c198 (by omega)) (fun c198 => ?_)
                refine h_aload_n (pc' := 21) rfl rfl rfl ?_
                refine h_iload_n (pc' := 22) rfl rfl rfl ?_
                refine h_call (sp := false) (pc' := 25) (M := [(0, .ref 98), (1, .int z187)]) rfl rfl rfl rfl rfl rfl rfl rfl ?_
                refine h_iload_n (pc' := 1) rfl rfl rfl ?_
                refine h_i2l (pc' := 2) rfl rfl hz187 (fun z199 hz199 => ?_)
                refine h_lconst (pc' := 3) (x := (Int64.ofInt 0)) rfl rfl rfl ?_
                refine h_aload_n (pc' := 4) rfl rfl rfl ?_
                refine h_getI (pc' := 7) (v := s0 98 1) rfl rfl rfl rfl rfl es181.2.2.2.2.2.2.1 (fun z200 hz200 => ?_)
                have tz200 := tf_98_1 I0
                refine h_iconst (pc' := 8) (x := (Int32.ofInt 1)) rfl rfl rfl ?_
                refine h_isub (pc' := 9) rfl rfl hz200 ci_1 rfl (by omega) (by omega) (fun z201 hz201 => ?_)
                refine h_i2l (pc' := 10) rfl rfl hz201 (fun z202 hz202 => ?_)
                refine h_calls (pc' := 13) (M := [(0, .long z199), (2, .long (Int64.ofInt 0)), (4, .long z202)]) rfl rfl rfl rfl rfl rfl ?_
                refine h_lload_n (pc' := 1) rfl rfl rfl ?_
                refine h_lload_n (pc' := 2) rfl rfl rfl ?_
                refine h_lcmp (pc' := 3) rfl rfl hz199 cl_0 (fun z203 hz203 => ?_)
                refine h_zlt (tg := 17) (pc' := 6) rfl rfl rfl rfl (fun c204 => absurd c204 (by omega)) (fun c204 => ?_)
                replace c204 := (h_lcr hz203).2.1 c204
                clear hz203
                refine h_lload_n (pc' := 7) rfl rfl rfl ?_
                refine h_lload (pc' := 9) rfl rfl rfl ?_
                refine h_lcmp (pc' := 10) rfl rfl hz199 hz202 (fun z205 hz205 => ?_)
                refine h_zgt (tg := 17) (pc' := 13) rfl rfl rfl rfl (fun c206 => absurd c206 (by omega)) (fun c206 => ?_)
                replace c206 := (h_lcr hz205).2.2.1 c206
                clear hz205
                refine h_iconst (pc' := 14) (x := (Int32.ofInt 1)) rfl rfl rfl ?_
                refine h_goto (pc' := 18) rfl rfl ?_
                refine h_zret rfl rfl ci_1 (by omega) (h_Kv ?_)
                refine h_zret rfl rfl ci_1 (by omega) (h_Kv ?_)
                refine h_zeq (tg := 32) (pc' := 28) rfl rfl rfl ci_1 (fun c207 => absurd c207 (by omega)) (fun c207 => ?_)
                refine h_iconst (pc' := 29) (x := (Int32.ofInt 1)) rfl rfl rfl ?_
                refine h_goto (pc' := 33) rfl rfl ?_
                refine h_bipush (pc' := 35) (x := (Int32.ofInt 29)) rfl rfl cb_29 ?_
                refine h_iload_n (pc' := 36) rfl rfl rfl ?_
                refine h_iadd (pc' := 37) rfl rfl ci_29 hz183 rfl (by have g0 := h_rgv hz183; omega) (by have g0 := h_rgv hz183; omega) (fun z208 hz208 => ?_)
                refine h_iload_n (pc' := 38) rfl rfl rfl ?_
                refine h_iconst (pc' := 39) (x := (Int32.ofInt 1)) rfl rfl rfl ?_
                refine h_call (sp := false) (pc' := 42) (M := [(0, .ref 98), (1, .int (Int32.ofInt 1)), (2, .int z208), (3, .int z187), (4, .int (Int32.ofInt 1))]) rfl rfl rfl rfl rfl rfl rfl rfl ?_
                refine h_iload_n (pc' := 1) rfl rfl rfl ?_
                refine h_zne (tg := 6) (pc' := 4) rfl rfl rfl ci_1 (fun c209 => ?_) (fun c209 => absurd c209 (by omega))
                refine h_iload (pc' := 8) rfl rfl rfl ?_
                refine h_zne (tg := 20) (pc' := 11) rfl rfl rfl ci_1 (fun c210 => ?_) (fun c210 => absurd c210 (by omega))
                refine h_aload_n (pc' := 21) rfl rfl rfl ?_
                refine h_getR (pc' := 24) rfl rfl rfl rfl rfl ?_
                refine h_iload_n (pc' := 25) rfl rfl rfl ?_
                refine h_iald (pc' := 26) (v := s181 99 (29 + (s0 0 (b3 + 1)))) rfl rfl rfl hz208 (by omega) (by omega) rfl (fun z211 hz211 => ?_)
                have tz211 := ty_99_7 Is181 (29 + (s0 0 (b3 + 1))) (by omega)
                refine h_calls (pc' := 29) (M := [(0, .int z211)]) rfl rfl rfl rfl rfl rfl ?_
                refine h_iload_n (pc' := 1) rfl rfl rfl ?_
                refine h_zne (tg := 9) (pc' := 4) rfl rfl rfl hz211 (fun c212 => ?_) (fun c212 => ?_)
                · refine h_iload_n (pc' := 10) rfl rfl rfl ?_
                  refine h_iconst (pc' := 11) (x := (Int32.ofInt 1)) rfl rfl rfl ?_
                  refine h_isub (pc' := 12) rfl rfl hz211 ci_1 rfl (by omega) (by omega) (fun z213 hz213 => ?_)
                  refine h_iret rfl rfl (h_Kv ?_)
                  refine h_istore (pc' := 31) (M := [(5, .int z213), (0, .ref 98), (1, .int (Int32.ofInt 1)), (2, .int z208), (3, .int z187), (4, .int (Int32.ofInt 1))]) rfl rfl rfl rfl ?_
                  refine h_aload_n (pc' := 32) rfl rfl rfl ?_
                  refine h_getR (pc' := 35) rfl rfl rfl rfl rfl ?_
                  refine h_iload_n (pc' := 36) rfl rfl rfl ?_
                  refine h_iload (pc' := 38) rfl rfl rfl ?_
                  refine h_zne (tg := 45) (pc' := 41) rfl rfl rfl ci_1 (fun c214 => ?_) (fun c214 => absurd c214 (by omega))
                  refine h_iload_n (pc' := 46) rfl rfl rfl ?_
                  refine h_bipush (pc' := 48) (x := (Int32.ofInt (-4))) rfl rfl cb_m4 ?_
                  refine h_cne (tg := 55) (pc' := 51) rfl rfl rfl hz187 ci_m4 (fun c215 => ?_) (fun c215 => absurd c215 (by omega))
                  refine h_iload_n (pc' := 56) rfl rfl rfl ?_
                  refine h_iconst (pc' := 57) (x := (Int32.ofInt 1)) rfl rfl rfl ?_
                  refine h_iadd (pc' := 58) rfl rfl hz187 ci_1 rfl (by have g0 := h_rgv hz187; omega) (by have g0 := h_rgv hz187; omega) (fun z216 hz216 => ?_)
                  refine h_iast (pc' := 59) rfl rfl rfl rfl hz208 (by omega) (by omega) hz216 (h_fgt (E := fun s => s 64 1 = s0 64 1 ∧ s 98 11 = s0 98 11 ∧ s 64 4 = s0 64 4 ∧ s 98 16 = s0 98 16 ∧ s 63 2 = s0 63 2 ∧ s 10 8 = s0 10 8 ∧ s 98 1 = s0 98 1 ∧ s 10 9 = s0 10 9 ∧ s 98 2 = s0 98 2 ∧ s 10 10 = s0 10 10 ∧ s 99 43 = s0 99 43 ∧ s 13 2 = s0 13 2 ∧ s 99 18 = s0 99 18 ∧ s 16 2 = s0 16 2 ∧ s 99 25 = s0 99 25 ∧ s 62 0 = s0 62 0 ∧ s 110 0 = s0 110 0 ∧ s 62 1 = s0 62 1 ∧ s 110 1 = s0 110 1 ∧ s = h_up s181 99 (29 + (s0 0 (b3 + 1))) ((s0 0 (b3 + 3)) + 1)) _ (ip_99_7 Is181 (by omega) (by omega)) (Fs181.up (k_ipg (p := 0) rfl rfl (by omega))) ⟨es181.1, es181.2.1, es181.2.2.1, es181.2.2.2.1, es181.2.2.2.2.1, es181.2.2.2.2.2.1, es181.2.2.2.2.2.2.1, es181.2.2.2.2.2.2.2.1, es181.2.2.2.2.2.2.2.2.1, es181.2.2.2.2.2.2.2.2.2.1, h_up_n2 (by omega) es181.2.2.2.2.2.2.2.2.2.2.1, es181.2.2.2.2.2.2.2.2.2.2.2.1, h_up_n2 (by omega) es181.2.2.2.2.2.2.2.2.2.2.2.2.1, es181.2.2.2.2.2.2.2.2.2.2.2.2.2.1, h_up_n2 (by omega) es181.2.2.2.2.2.2.2.2.2.2.2.2.2.2.1, es181.2.2.2.2.2.2.2.2.2.2.2.2.2.2.2.1, es181.2.2.2.2.2.2.2.2.2.2.2.2.2.2.2.2.1, es181.2.2.2.2.2.2.2.2.2.2.2.2.2.2.2.2.2.1, es181.2.2.2.2.2.2.2.2.2.2.2.2.2.2.2.2.2.2.1, rfl⟩ (fun s217 Is217 Fs217 (es217 : s217 64 1 = s0 64 1 ∧ s217 98 11 = s0 98 11 ∧ s217 64 4 = s0 64 4 ∧ s217 98 16 = s0 98 16 ∧ s217 63 2 = s0 63 2 ∧ s217 10 8 = s0 10 8 ∧ s217 98 1 = s0 98 1 ∧ s217 10 9 = s0 10 9 ∧ s217 98 2 = s0 98 2 ∧ s217 10 10 = s0 10 10 ∧ s217 99 43 = s0 99 43 ∧ s217 13 2 = s0 13 2 ∧ s217 99 18 = s0 99 18 ∧ s217 16 2 = s0 16 2 ∧ s217 99 25 = s0 99 25 ∧ s217 62 0 = s0 62 0 ∧ s217 110 0 = s0 110 0 ∧ s217 62 1 = s0 62 1 ∧ s217 110 1 = s0 110 1 ∧ s217 = h_up s181 99 (29 + (s0 0 (b3 + 1))) ((s0 0 (b3 + 3)) + 1)) => ?_))
                  clear es181
                  have us217 := es217.2.2.2.2.2.2.2.2.2.2.2.2.2.2.2.2.2.2.2
                  have Zs217 : ∀ i, s217 0 i = s0 0 i := fun i => (h_upo us217 rfl i).trans (Zs181 i)
                  refine h_iload (pc' := 61) rfl rfl rfl ?_
                  refine h_iret rfl rfl (h_Kv ?_)
                  refine h_iret rfl rfl (h_Kv ?_)
                  refine h_pop (pc' := 677) rfl rfl rfl ?_
                  refine h_goto (pc' := 1441) rfl rfl ?_
                  exact kk _ Is217 (by first | exact d_tape.le j0 (Int.le_antisymm (by omega) (by omega)) (by omega) (fun j => (h_upo us217 rfl j).trans ((h_upo us181 rfl j))) (fun j => (h_upo us217 rfl j).trans ((h_upo us181 rfl j))) | (exfalso; omega)) (Int.le_antisymm (by omega) (by omega)) (c_R.las j2 I0 (by omega) (by omega) (Int.le_antisymm (by omega) (by omega)) (by omega) (fun j => (h_upo us217 rfl j).trans ((h_upi us181 j)))  (fun j => (h_upi us217 j).trans (congrArg (fun z => if j = (29 + (s0 0 (b3 + 1))) then ((s0 0 (b3 + 3)) + 1) else z) ((h_upo us181 rfl j))))  (fun p j n0 n1 => (h_upq us217 n1 j).trans ((h_upq us181 n0 j))))
                · refine h_bipush (pc' := 6) (x := (Int32.ofInt (-4))) rfl rfl cb_m4 ?_
                  refine h_goto (pc' := 12) rfl rfl ?_
                  refine h_iret rfl rfl (h_Kv ?_)
                  refine h_istore (pc' := 31) (M := [(5, .int (Int32.ofInt (-4))), (0, .ref 98), (1, .int (Int32.ofInt 1)), (2, .int z208), (3, .int z187), (4, .int (Int32.ofInt 1))]) rfl rfl rfl rfl ?_
                  refine h_aload_n (pc' := 32) rfl rfl rfl ?_
                  refine h_getR (pc' := 35) rfl rfl rfl rfl rfl ?_
                  refine h_iload_n (pc' := 36) rfl rfl rfl ?_
                  refine h_iload (pc' := 38) rfl rfl rfl ?_
                  refine h_zne (tg := 45) (pc' := 41) rfl rfl rfl ci_1 (fun c218 => ?_) (fun c218 => absurd c218 (by omega))
                  refine h_iload_n (pc' := 46) rfl rfl rfl ?_
                  refine h_bipush (pc' := 48) (x := (Int32.ofInt (-4))) rfl rfl cb_m4 ?_
                  refine h_cne (tg := 55) (pc' := 51) rfl rfl rfl hz187 ci_m4 (fun c219 => ?_) (fun c219 => absurd c219 (by omega))
                  refine h_iload_n (pc' := 56) rfl rfl rfl ?_
                  refine h_iconst (pc' := 57) (x := (Int32.ofInt 1)) rfl rfl rfl ?_
                  refine h_iadd (pc' := 58) rfl rfl hz187 ci_1 rfl (by have g0 := h_rgv hz187; omega) (by have g0 := h_rgv hz187; omega) (fun z220 hz220 => ?_)
                  refine h_iast (pc' := 59) rfl rfl rfl rfl hz208 (by omega) (by omega) hz220 (h_fgt (E := fun s => s 64 1 = s0 64 1 ∧ s 98 11 = s0 98 11 ∧ s 64 4 = s0 64 4 ∧ s 98 16 = s0 98 16 ∧ s 63 2 = s0 63 2 ∧ s 10 8 = s0 10 8 ∧ s 98 1 = s0 98 1 ∧ s 10 9 = s0 10 9 ∧ s 98 2 = s0 98 2 ∧ s 10 10 = s0 10 10 ∧ s 99 43 = s0 99 43 ∧ s 13 2 = s0 13 2 ∧ s 99 18 = s0 99 18 ∧ s 16 2 = s0 16 2 ∧ s 99 25 = s0 99 25 ∧ s 62 0 = s0 62 0 ∧ s 110 0 = s0 110 0 ∧ s 62 1 = s0 62 1 ∧ s 110 1 = s0 110 1 ∧ s = h_up s181 99 (29 + (s0 0 (b3 + 1))) ((s0 0 (b3 + 3)) + 1)) _ (ip_99_7 Is181 (by omega) (by omega)) (Fs181.up (k_ipg (p := 0) rfl rfl (by omega))) ⟨es181.1, es181.2.1, es181.2.2.1, es181.2.2.2.1, es181.2.2.2.2.1, es181.2.2.2.2.2.1, es181.2.2.2.2.2.2.1, es181.2.2.2.2.2.2.2.1, es181.2.2.2.2.2.2.2.2.1, es181.2.2.2.2.2.2.2.2.2.1, h_up_n2 (by omega) es181.2.2.2.2.2.2.2.2.2.2.1, es181.2.2.2.2.2.2.2.2.2.2.2.1, h_up_n2 (by omega) es181.2.2.2.2.2.2.2.2.2.2.2.2.1, es181.2.2.2.2.2.2.2.2.2.2.2.2.2.1, h_up_n2 (by omega) es181.2.2.2.2.2.2.2.2.2.2.2.2.2.2.1, es181.2.2.2.2.2.2.2.2.2.2.2.2.2.2.2.1, es181.2.2.2.2.2.2.2.2.2.2.2.2.2.2.2.2.1, es181.2.2.2.2.2.2.2.2.2.2.2.2.2.2.2.2.2.1, es181.2.2.2.2.2.2.2.2.2.2.2.2.2.2.2.2.2.2.1, rfl⟩ (fun s221 Is221 Fs221 (es221 : s221 64 1 = s0 64 1 ∧ s221 98 11 = s0 98 11 ∧ s221 64 4 = s0 64 4 ∧ s221 98 16 = s0 98 16 ∧ s221 63 2 = s0 63 2 ∧ s221 10 8 = s0 10 8 ∧ s221 98 1 = s0 98 1 ∧ s221 10 9 = s0 10 9 ∧ s221 98 2 = s0 98 2 ∧ s221 10 10 = s0 10 10 ∧ s221 99 43 = s0 99 43 ∧ s221 13 2 = s0 13 2 ∧ s221 99 18 = s0 99 18 ∧ s221 16 2 = s0 16 2 ∧ s221 99 25 = s0 99 25 ∧ s221 62 0 = s0 62 0 ∧ s221 110 0 = s0 110 0 ∧ s221 62 1 = s0 62 1 ∧ s221 110 1 = s0 110 1 ∧ s221 = h_up s181 99 (29 + (s0 0 (b3 + 1))) ((s0 0 (b3 + 3)) + 1)) => ?_))
                  clear es181
                  have us221 := es221.2.2.2.2.2.2.2.2.2.2.2.2.2.2.2.2.2.2.2
                  have Zs221 : ∀ i, s221 0 i = s0 0 i := fun i => (h_upo us221 rfl i).trans (Zs181 i)
                  refine h_iload (pc' := 61) rfl rfl rfl ?_
                  refine h_iret rfl rfl (h_Kv ?_)
                  refine h_iret rfl rfl (h_Kv ?_)
                  refine h_pop (pc' := 677) rfl rfl rfl ?_
                  refine h_goto (pc' := 1441) rfl rfl ?_
                  exact kk _ Is221 (by first | exact d_tape.le j0 (Int.le_antisymm (by omega) (by omega)) (by omega) (fun j => (h_upo us221 rfl j).trans ((h_upo us181 rfl j))) (fun j => (h_upo us221 rfl j).trans ((h_upo us181 rfl j))) | (exfalso; omega)) (Int.le_antisymm (by omega) (by omega)) (c_R.las j2 I0 (by omega) (by omega) (Int.le_antisymm (by omega) (by omega)) (by omega) (fun j => (h_upo us221 rfl j).trans ((h_upi us181 j)))  (fun j => (h_upi us221 j).trans (congrArg (fun z => if j = (29 + (s0 0 (b3 + 1))) then ((s0 0 (b3 + 3)) + 1) else z) ((h_upo us181 rfl j))))  (fun p j n0 n1 => (h_upq us221 n1 j).trans ((h_upq us181 n0 j))))
      · refine h_iload_n (pc' := 18) rfl rfl rfl ?_
        refine h_zlt (tg := 51) (pc' := 21) rfl rfl rfl hz6 (fun c222 => ?_) (fun c222 => ?_)
        · refine h_iload_n (pc' := 52) rfl rfl rfl ?_
          refine h_iconst (pc' := 53) (x := (Int32.ofInt 1)) rfl rfl rfl ?_
          refine h_cne (tg := 97) (pc' := 56) rfl rfl rfl hz4 ci_1 (fun c223 => ?_) (fun c223 => absurd c223 (by omega))
          refine h_iconst (pc' := 98) (x := (Int32.ofInt (-1))) rfl rfl rfl ?_
          refine h_iret rfl rfl (h_Kv ?_)
          refine h_pop (pc' := 657) rfl rfl rfl ?_
          refine h_aload_n (pc' := 658) rfl rfl rfl ?_
          refine h_aload_n (pc' := 659) rfl rfl rfl ?_
          refine h_iload_n (pc' := 660) rfl rfl rfl ?_
          refine h_iconst (pc' := 661) (x := (Int32.ofInt 1)) rfl rfl rfl ?_
          refine h_iadd (pc' := 662) rfl rfl hy3 ci_1 rfl (by omega) (by omega) (fun z224 hz224 => ?_)
          refine h_iald (pc' := 663) (v := s0 0 (b3 + 1)) rfl rfl rfl hz224 (by omega) (by omega) rfl (fun z225 hz225 => ?_)
          have tz225 := h_rgv hz225
          refine h_aload_n (pc' := 664) rfl rfl rfl ?_
          refine h_iload_n (pc' := 665) rfl rfl rfl ?_
          refine h_iconst (pc' := 666) (x := (Int32.ofInt 2)) rfl rfl rfl ?_
          refine h_iadd (pc' := 667) rfl rfl hy3 ci_2 rfl (by omega) (by omega) (fun z226 hz226 => ?_)
          refine h_iald (pc' := 668) (v := s0 0 (b3 + 2)) rfl rfl rfl hz226 (by omega) (by omega) rfl (fun z227 hz227 => ?_)
          have tz227 := h_rgv hz227
          refine h_aload_n (pc' := 669) rfl rfl rfl ?_
          refine h_iload_n (pc' := 670) rfl rfl rfl ?_
          refine h_iconst (pc' := 671) (x := (Int32.ofInt 3)) rfl rfl rfl ?_
          refine h_iadd (pc' := 672) rfl rfl hy3 ci_3 rfl (by omega) (by omega) (fun z228 hz228 => ?_)
          refine h_iald (pc' := 673) (v := s0 0 (b3 + 3)) rfl rfl rfl hz228 (by omega) (by omega) rfl (fun z229 hz229 => ?_)
          have tz229 := h_rgv hz229
          refine h_call (sp := false) (pc' := 676) (M := [(0, .ref 98), (1, .int z225), (2, .int z227), (3, .int z229)]) rfl rfl rfl rfl rfl rfl rfl rfl ?_
          refine h_iload_n (pc' := 1) rfl rfl rfl ?_
          refine h_iconst (pc' := 2) (x := (Int32.ofInt 1)) rfl rfl rfl ?_
          refine h_cne (tg := 43) (pc' := 5) rfl rfl rfl hz227 ci_1 (fun c230 => ?_) (fun c230 => absurd c230 (by omega))
          refine h_aload_n (pc' := 44) rfl rfl rfl ?_
          refine h_aload_n (pc' := 45) rfl rfl rfl ?_
          refine h_iload_n (pc' := 46) rfl rfl rfl ?_
          refine h_call (sp := false) (pc' := 49) (M := [(0, .ref 98), (1, .int z225)]) rfl rfl rfl rfl rfl rfl rfl rfl ?_
          refine h_iload_n (pc' := 1) rfl rfl rfl ?_
          refine h_i2l (pc' := 2) rfl rfl hz225 (fun z231 hz231 => ?_)
          refine h_lconst (pc' := 3) (x := (Int64.ofInt 0)) rfl rfl rfl ?_
          refine h_aload_n (pc' := 4) rfl rfl rfl ?_
          refine h_getI (pc' := 7) (v := s0 98 2) rfl rfl rfl rfl rfl rfl (fun z232 hz232 => ?_)
          have tz232 := tf_98_2 I0
          refine h_iconst (pc' := 8) (x := (Int32.ofInt 1)) rfl rfl rfl ?_
          refine h_isub (pc' := 9) rfl rfl hz232 ci_1 rfl (by omega) (by omega) (fun z233 hz233 => ?_)
          refine h_i2l (pc' := 10) rfl rfl hz233 (fun z234 hz234 => ?_)
          refine h_calls (pc' := 13) (M := [(0, .long z231), (2, .long (Int64.ofInt 0)), (4, .long z234)]) rfl rfl rfl rfl rfl rfl ?_
          refine h_lload_n (pc' := 1) rfl rfl rfl ?_
          refine h_lload_n (pc' := 2) rfl rfl rfl ?_
          refine h_lcmp (pc' := 3) rfl rfl hz231 cl_0 (fun z235 hz235 => ?_)
          refine h_zlt (tg := 17) (pc' := 6) rfl rfl rfl rfl (fun c236 => absurd c236 (by omega)) (fun c236 => ?_)
          replace c236 := (h_lcr hz235).2.1 c236
          clear hz235
          refine h_lload_n (pc' := 7) rfl rfl rfl ?_
          refine h_lload (pc' := 9) rfl rfl rfl ?_
          refine h_lcmp (pc' := 10) rfl rfl hz231 hz234 (fun z237 hz237 => ?_)
          refine h_zgt (tg := 17) (pc' := 13) rfl rfl rfl rfl (fun c238 => absurd c238 (by omega)) (fun c238 => ?_)
          replace c238 := (h_lcr hz237).2.2.1 c238
          clear hz237
          refine h_iconst (pc' := 14) (x := (Int32.ofInt 1)) rfl rfl rfl ?_
          refine h_goto (pc' := 18) rfl rfl ?_
          refine h_zret rfl rfl ci_1 (by omega) (h_Kv ?_)
          refine h_zret rfl rfl ci_1 (by omega) (h_Kv ?_)
          refine h_zeq (tg := 72) (pc' := 52) rfl rfl rfl ci_1 (fun c239 => absurd c239 (by omega)) (fun c239 => ?_)
          refine h_iload_n (pc' := 53) rfl rfl rfl ?_
          refine h_zne (tg := 72) (pc' := 56) rfl rfl rfl hz227 (fun c240 => absurd (Int.le_antisymm (by omega) (by omega)) c240) (fun c240 => ?_)
          refine h_iload_n (pc' := 57) rfl rfl rfl ?_
          refine h_i2l (pc' := 58) rfl rfl hz229 (fun z241 hz241 => ?_)
          refine h_lconst (pc' := 59) (x := (Int64.ofInt 0)) rfl rfl rfl ?_
          refine h_ldc2 (pc' := 62) (x := (Int64.ofInt 9)) rfl rfl rfl ?_
          refine h_calls (pc' := 65) (M := [(0, .long z241), (2, .long (Int64.ofInt 0)), (4, .long (Int64.ofInt 9))]) rfl rfl rfl rfl rfl rfl ?_
          refine h_lload_n (pc' := 1) rfl rfl rfl ?_
          refine h_lload_n (pc' := 2) rfl rfl rfl ?_
          refine h_lcmp (pc' := 3) rfl rfl hz241 cl_0 (fun z242 hz242 => ?_)
          refine h_zlt (tg := 17) (pc' := 6) rfl rfl rfl rfl (fun c243 => ?_) (fun c243 => absurd c243 (by omega))
          replace c243 := (h_lcr hz242).1 c243
          clear hz242
          refine h_iconst (pc' := 18) (x := (Int32.ofInt 0)) rfl rfl rfl ?_
          refine h_zret rfl rfl ci_0 (by omega) (h_Kv ?_)
          refine h_zeq (tg := 72) (pc' := 68) rfl rfl rfl ci_0 (fun c244 => ?_) (fun c244 => absurd (Int.le_antisymm (by omega) (by omega)) c244)
          refine h_iconst (pc' := 73) (x := (Int32.ofInt 0)) rfl rfl rfl ?_
          refine h_bipush (pc' := 75) (x := (Int32.ofInt 26)) rfl rfl cb_26 ?_
          refine h_iload_n (pc' := 76) rfl rfl rfl ?_
          refine h_iadd (pc' := 77) rfl rfl ci_26 hz225 rfl (by have g0 := h_rgv hz225; omega) (by have g0 := h_rgv hz225; omega) (fun z245 hz245 => ?_)
          refine h_iload_n (pc' := 78) rfl rfl rfl ?_
          refine h_iconst (pc' := 79) (x := (Int32.ofInt 0)) rfl rfl rfl ?_
          refine h_call (sp := false) (pc' := 82) (M := [(0, .ref 98), (1, .int (Int32.ofInt 0)), (2, .int z245), (3, .int z229), (4, .int (Int32.ofInt 0))]) rfl rfl rfl rfl rfl rfl rfl rfl ?_
          refine h_iload_n (pc' := 1) rfl rfl rfl ?_
          refine h_zne (tg := 6) (pc' := 4) rfl rfl rfl ci_0 (fun c246 => absurd (Int.le_antisymm (by omega) (by omega)) c246) (fun c246 => ?_)
          refine h_iconst (pc' := 5) (x := (Int32.ofInt (-1))) rfl rfl rfl ?_
          refine h_iret rfl rfl (h_Kv ?_)
          refine h_iret rfl rfl (h_Kv ?_)
          refine h_pop (pc' := 677) rfl rfl rfl ?_
          refine h_goto (pc' := 1441) rfl rfl ?_
          exact kk _ I0 (by first | exact d_tape.le j0 (Int.le_antisymm (by omega) (by omega)) (by omega) (fun j => rfl) (fun j => rfl) | (exfalso; omega)) (Int.le_antisymm (by omega) (by omega)) j2
        · refine h_iload_n (pc' := 22) rfl rfl rfl ?_
          refine h_bipush (pc' := 24) (x := (Int32.ofInt 9)) rfl rfl cb_9 ?_
          refine h_cgt (tg := 51) (pc' := 27) rfl rfl rfl hz6 ci_9 (fun c247 => ?_) (fun c247 => ?_)
          · refine h_iload_n (pc' := 52) rfl rfl rfl ?_
            refine h_iconst (pc' := 53) (x := (Int32.ofInt 1)) rfl rfl rfl ?_
            refine h_cne (tg := 97) (pc' := 56) rfl rfl rfl hz4 ci_1 (fun c248 => ?_) (fun c248 => absurd c248 (by omega))
            refine h_iconst (pc' := 98) (x := (Int32.ofInt (-1))) rfl rfl rfl ?_
            refine h_iret rfl rfl (h_Kv ?_)
            refine h_pop (pc' := 657) rfl rfl rfl ?_
            refine h_aload_n (pc' := 658) rfl rfl rfl ?_
            refine h_aload_n (pc' := 659) rfl rfl rfl ?_
            refine h_iload_n (pc' := 660) rfl rfl rfl ?_
            refine h_iconst (pc' := 661) (x := (Int32.ofInt 1)) rfl rfl rfl ?_
            refine h_iadd (pc' := 662) rfl rfl hy3 ci_1 rfl (by omega) (by omega) (fun z249 hz249 => ?_)
            refine h_iald (pc' := 663) (v := s0 0 (b3 + 1)) rfl rfl rfl hz249 (by omega) (by omega) rfl (fun z250 hz250 => ?_)
            have tz250 := h_rgv hz250
            refine h_aload_n (pc' := 664) rfl rfl rfl ?_
            refine h_iload_n (pc' := 665) rfl rfl rfl ?_
            refine h_iconst (pc' := 666) (x := (Int32.ofInt 2)) rfl rfl rfl ?_
            refine h_iadd (pc' := 667) rfl rfl hy3 ci_2 rfl (by omega) (by omega) (fun z251 hz251 => ?_)
            refine h_iald (pc' := 668) (v := s0 0 (b3 + 2)) rfl rfl rfl hz251 (by omega) (by omega) rfl (fun z252 hz252 => ?_)
            have tz252 := h_rgv hz252
            refine h_aload_n (pc' := 669) rfl rfl rfl ?_
            refine h_iload_n (pc' := 670) rfl rfl rfl ?_
            refine h_iconst (pc' := 671) (x := (Int32.ofInt 3)) rfl rfl rfl ?_
            refine h_iadd (pc' := 672) rfl rfl hy3 ci_3 rfl (by omega) (by omega) (fun z253 hz253 => ?_)
            refine h_iald (pc' := 673) (v := s0 0 (b3 + 3)) rfl rfl rfl hz253 (by omega) (by omega) rfl (fun z254 hz254 => ?_)
            have tz254 := h_rgv hz254
            refine h_call (sp := false) (pc' := 676) (M := [(0, .ref 98), (1, .int z250), (2, .int z252), (3, .int z254)]) rfl rfl rfl rfl rfl rfl rfl rfl ?_
            refine h_iload_n (pc' := 1) rfl rfl rfl ?_
            refine h_iconst (pc' := 2) (x := (Int32.ofInt 1)) rfl rfl rfl ?_
            refine h_cne (tg := 43) (pc' := 5) rfl rfl rfl hz252 ci_1 (fun c255 => ?_) (fun c255 => absurd c255 (by omega))
            refine h_aload_n (pc' := 44) rfl rfl rfl ?_
            refine h_aload_n (pc' := 45) rfl rfl rfl ?_
            refine h_iload_n (pc' := 46) rfl rfl rfl ?_
            refine h_call (sp := false) (pc' := 49) (M := [(0, .ref 98), (1, .int z250)]) rfl rfl rfl rfl rfl rfl rfl rfl ?_
            refine h_iload_n (pc' := 1) rfl rfl rfl ?_
            refine h_i2l (pc' := 2) rfl rfl hz250 (fun z256 hz256 => ?_)
            refine h_lconst (pc' := 3) (x := (Int64.ofInt 0)) rfl rfl rfl ?_
            refine h_aload_n (pc' := 4) rfl rfl rfl ?_
            refine h_getI (pc' := 7) (v := s0 98 2) rfl rfl rfl rfl rfl rfl (fun z257 hz257 => ?_)
            have tz257 := tf_98_2 I0
            refine h_iconst (pc' := 8) (x := (Int32.ofInt 1)) rfl rfl rfl ?_
            refine h_isub (pc' := 9) rfl rfl hz257 ci_1 rfl (by omega) (by omega) (fun z258 hz258 => ?_)
            refine h_i2l (pc' := 10) rfl rfl hz258 (fun z259 hz259 => ?_)
            refine h_calls (pc' := 13) (M := [(0, .long z256), (2, .long (Int64.ofInt 0)), (4, .long z259)]) rfl rfl rfl rfl rfl rfl ?_
            refine h_lload_n (pc' := 1) rfl rfl rfl ?_
            refine h_lload_n (pc' := 2) rfl rfl rfl ?_
            refine h_lcmp (pc' := 3) rfl rfl hz256 cl_0 (fun z260 hz260 => ?_)
            refine h_zlt (tg := 17) (pc' := 6) rfl rfl rfl rfl (fun c261 => absurd c261 (by omega)) (fun c261 => ?_)
            replace c261 := (h_lcr hz260).2.1 c261
            clear hz260
            refine h_lload_n (pc' := 7) rfl rfl rfl ?_
            refine h_lload (pc' := 9) rfl rfl rfl ?_
            refine h_lcmp (pc' := 10) rfl rfl hz256 hz259 (fun z262 hz262 => ?_)
            refine h_zgt (tg := 17) (pc' := 13) rfl rfl rfl rfl (fun c263 => absurd c263 (by omega)) (fun c263 => ?_)
            replace c263 := (h_lcr hz262).2.2.1 c263
            clear hz262
            refine h_iconst (pc' := 14) (x := (Int32.ofInt 1)) rfl rfl rfl ?_
            refine h_goto (pc' := 18) rfl rfl ?_
            refine h_zret rfl rfl ci_1 (by omega) (h_Kv ?_)
            refine h_zret rfl rfl ci_1 (by omega) (h_Kv ?_)
            refine h_zeq (tg := 72) (pc' := 52) rfl rfl rfl ci_1 (fun c264 => absurd c264 (by omega)) (fun c264 => ?_)
            refine h_iload_n (pc' := 53) rfl rfl rfl ?_
            refine h_zne (tg := 72) (pc' := 56) rfl rfl rfl hz252 (fun c265 => absurd (Int.le_antisymm (by omega) (by omega)) c265) (fun c265 => ?_)
            refine h_iload_n (pc' := 57) rfl rfl rfl ?_
            refine h_i2l (pc' := 58) rfl rfl hz254 (fun z266 hz266 => ?_)
            refine h_lconst (pc' := 59) (x := (Int64.ofInt 0)) rfl rfl rfl ?_
            refine h_ldc2 (pc' := 62) (x := (Int64.ofInt 9)) rfl rfl rfl ?_
            refine h_calls (pc' := 65) (M := [(0, .long z266), (2, .long (Int64.ofInt 0)), (4, .long (Int64.ofInt 9))]) rfl rfl rfl rfl rfl rfl ?_
            refine h_lload_n (pc' := 1) rfl rfl rfl ?_
            refine h_lload_n (pc' := 2) rfl rfl rfl ?_
            refine h_lcmp (pc' := 3) rfl rfl hz266 cl_0 (fun z267 hz267 => ?_)
            refine h_zlt (tg := 17) (pc' := 6) rfl rfl rfl rfl (fun c268 => absurd c268 (by omega)) (fun c268 => ?_)
            replace c268 := (h_lcr hz267).2.1 c268
            clear hz267
            refine h_lload_n (pc' := 7) rfl rfl rfl ?_
            refine h_lload (pc' := 9) rfl rfl rfl ?_
            refine h_lcmp (pc' := 10) rfl rfl hz266 cl_9 (fun z269 hz269 => ?_)
            refine h_zgt (tg := 17) (pc' := 13) rfl rfl rfl rfl (fun c270 => ?_) (fun c270 => absurd c270 (by omega))
            replace c270 := (h_lcr hz269).2.2.2.1 c270
            clear hz269
            refine h_iconst (pc' := 18) (x := (Int32.ofInt 0)) rfl rfl rfl ?_
            refine h_zret rfl rfl ci_0 (by omega) (h_Kv ?_)
            refine h_zeq (tg := 72) (pc' := 68) rfl rfl rfl ci_0 (fun c271 => ?_) (fun c271 => absurd (Int.le_antisymm (by omega) (by omega)) c271)
            refine h_iconst (pc' := 73) (x := (Int32.ofInt 0)) rfl rfl rfl ?_
            refine h_bipush (pc' := 75) (x := (Int32.ofInt 26)) rfl rfl cb_26 ?_
            refine h_iload_n (pc' := 76) rfl rfl rfl ?_
            refine h_iadd (pc' := 77) rfl rfl ci_26 hz250 rfl (by have g0 := h_rgv hz250; omega) (by have g0 := h_rgv hz250; omega) (fun z272 hz272 => ?_)
            refine h_iload_n (pc' := 78) rfl rfl rfl ?_
            refine h_iconst (pc' := 79) (x := (Int32.ofInt 0)) rfl rfl rfl ?_
            refine h_call (sp := false) (pc' := 82) (M := [(0, .ref 98), (1, .int (Int32.ofInt 0)), (2, .int z272), (3, .int z254), (4, .int (Int32.ofInt 0))]) rfl rfl rfl rfl rfl rfl rfl rfl ?_
            refine h_iload_n (pc' := 1) rfl rfl rfl ?_
            refine h_zne (tg := 6) (pc' := 4) rfl rfl rfl ci_0 (fun c273 => absurd (Int.le_antisymm (by omega) (by omega)) c273) (fun c273 => ?_)
            refine h_iconst (pc' := 5) (x := (Int32.ofInt (-1))) rfl rfl rfl ?_
            refine h_iret rfl rfl (h_Kv ?_)
            refine h_iret rfl rfl (h_Kv ?_)
            refine h_pop (pc' := 677) rfl rfl rfl ?_
            refine h_goto (pc' := 1441) rfl rfl ?_
            exact kk _ I0 (by first | exact d_tape.le j0 (Int.le_antisymm (by omega) (by omega)) (by omega) (fun j => rfl) (fun j => rfl) | (exfalso; omega)) (Int.le_antisymm (by omega) (by omega)) j2
          · refine h_aload_n (pc' := 28) rfl rfl rfl ?_
            refine h_getR (pc' := 31) rfl rfl rfl rfl rfl ?_
            refine h_getR (pc' := 34) rfl rfl rfl rfl rfl ?_
            refine h_iload_n (pc' := 35) rfl rfl rfl ?_
            refine h_iald (pc' := 36) (v := s0 19 (s0 0 (b3 + 1))) rfl rfl rfl hz2 (by omega) (by omega) rfl (fun z274 hz274 => ?_)
            have tz274 := ty_19 I0 (s0 0 (b3 + 1))
            refine h_istore (pc' := 38) (M := [(4, .int z274), (0, .ref 9), (1, .int z2), (2, .int z4), (3, .int z6)]) rfl rfl rfl rfl ?_
            refine h_aload_n (pc' := 39) rfl rfl rfl ?_
            refine h_getR (pc' := 42) rfl rfl rfl rfl rfl ?_
            refine h_getR (pc' := 45) rfl rfl rfl rfl rfl ?_
            refine h_iload_n (pc' := 46) rfl rfl rfl ?_
            refine h_iload_n (pc' := 47) rfl rfl rfl ?_
            refine h_iast (pc' := 48) rfl rfl rfl rfl hz2 (by omega) (by omega) hz6 (h_fgt (E := fun s => s 64 1 = s0 64 1 ∧ s 98 11 = s0 98 11 ∧ s 64 4 = s0 64 4 ∧ s 98 16 = s0 98 16 ∧ s 63 2 = s0 63 2 ∧ s 10 8 = s0 10 8 ∧ s 98 1 = s0 98 1 ∧ s 10 9 = s0 10 9 ∧ s 98 2 = s0 98 2 ∧ s 10 10 = s0 10 10 ∧ s 99 43 = s0 99 43 ∧ s 13 2 = s0 13 2 ∧ s 99 18 = s0 99 18 ∧ s 16 2 = s0 16 2 ∧ s 99 25 = s0 99 25 ∧ s 62 0 = s0 62 0 ∧ s 110 0 = s0 110 0 ∧ s 62 1 = s0 62 1 ∧ s 110 1 = s0 110 1 ∧ s = h_up s0 19 (s0 0 (b3 + 1)) (s0 0 (b3 + 3))) _ (in_19 I0 (by omega)) (F0_.up rfl) ⟨rfl, rfl, rfl, rfl, rfl, rfl, rfl, rfl, rfl, rfl, rfl, rfl, rfl, rfl, rfl, rfl, rfl, rfl, rfl, rfl⟩ (fun s275 Is275 Fs275 (es275 : s275 64 1 = s0 64 1 ∧ s275 98 11 = s0 98 11 ∧ s275 64 4 = s0 64 4 ∧ s275 98 16 = s0 98 16 ∧ s275 63 2 = s0 63 2 ∧ s275 10 8 = s0 10 8 ∧ s275 98 1 = s0 98 1 ∧ s275 10 9 = s0 10 9 ∧ s275 98 2 = s0 98 2 ∧ s275 10 10 = s0 10 10 ∧ s275 99 43 = s0 99 43 ∧ s275 13 2 = s0 13 2 ∧ s275 99 18 = s0 99 18 ∧ s275 16 2 = s0 16 2 ∧ s275 99 25 = s0 99 25 ∧ s275 62 0 = s0 62 0 ∧ s275 110 0 = s0 110 0 ∧ s275 62 1 = s0 62 1 ∧ s275 110 1 = s0 110 1 ∧ s275 = h_up s0 19 (s0 0 (b3 + 1)) (s0 0 (b3 + 3))) => ?_))
            have us275 := es275.2.2.2.2.2.2.2.2.2.2.2.2.2.2.2.2.2.2.2
            have Zs275 : ∀ i, s275 0 i = s0 0 i := fun i => (h_upo us275 rfl i).trans rfl
            refine h_iload (pc' := 50) rfl rfl rfl ?_
            refine h_iret rfl rfl (h_Kv ?_)
            refine h_pop (pc' := 657) rfl rfl rfl ?_
            refine h_aload_n (pc' := 658) rfl rfl rfl ?_
            refine h_aload_n (pc' := 659) rfl rfl rfl ?_
            refine h_iload_n (pc' := 660) rfl rfl rfl ?_
            refine h_iconst (pc' := 661) (x := (Int32.ofInt 1)) rfl rfl rfl ?_
            refine h_iadd (pc' := 662) rfl rfl hy3 ci_1 rfl (by omega) (by omega) (fun z276 hz276 => ?_)
            refine h_iald (pc' := 663) (v := s0 0 (b3 + 1)) rfl rfl rfl hz276 (by omega) (by omega) (Zs275 _) (fun z277 hz277 => ?_)
            have tz277 := h_rgv hz277
            refine h_aload_n (pc' := 664) rfl rfl rfl ?_
            refine h_iload_n (pc' := 665) rfl rfl rfl ?_
            refine h_iconst (pc' := 666) (x := (Int32.ofInt 2)) rfl rfl rfl ?_
            refine h_iadd (pc' := 667) rfl rfl hy3 ci_2 rfl (by omega) (by omega) (fun z278 hz278 => ?_)
            refine h_iald (pc' := 668) (v := s0 0 (b3 + 2)) rfl rfl rfl hz278 (by omega) (by omega) (Zs275 _) (fun z279 hz279 => ?_)
            have tz279 := h_rgv hz279
            refine h_aload_n (pc' := 669) rfl rfl rfl ?_
            refine h_iload_n (pc' := 670) rfl rfl rfl ?_
            refine h_iconst (pc' := 671) (x := (Int32.ofInt 3)) rfl rfl rfl ?_
            refine h_iadd (pc' := 672) rfl rfl hy3 ci_3 rfl (by omega) (by omega) (fun z280 hz280 => ?_)
            refine h_iald (pc' := 673) (v := s0 0 (b3 + 3)) rfl rfl rfl hz280 (by omega) (by omega) (Zs275 _) (fun z281 hz281 => ?_)
            have tz281 := h_rgv hz281
            refine h_call (sp := false) (pc' := 676) (M := [(0, .ref 98), (1, .int z277), (2, .int z279), (3, .int z281)]) rfl rfl rfl rfl rfl rfl rfl rfl ?_
            refine h_iload_n (pc' := 1) rfl rfl rfl ?_
            refine h_iconst (pc' := 2) (x := (Int32.ofInt 1)) rfl rfl rfl ?_
            refine h_cne (tg := 43) (pc' := 5) rfl rfl rfl hz279 ci_1 (fun c282 => ?_) (fun c282 => absurd c282 (by omega))
            refine h_aload_n (pc' := 44) rfl rfl rfl ?_
            refine h_aload_n (pc' := 45) rfl rfl rfl ?_
            refine h_iload_n (pc' := 46) rfl rfl rfl ?_
            refine h_call (sp := false) (pc' := 49) (M := [(0, .ref 98), (1, .int z277)]) rfl rfl rfl rfl rfl rfl rfl rfl ?_
            refine h_iload_n (pc' := 1) rfl rfl rfl ?_
            refine h_i2l (pc' := 2) rfl rfl hz277 (fun z283 hz283 => ?_)
            refine h_lconst (pc' := 3) (x := (Int64.ofInt 0)) rfl rfl rfl ?_
            refine h_aload_n (pc' := 4) rfl rfl rfl ?_
            refine h_getI (pc' := 7) (v := s0 98 2) rfl rfl rfl rfl rfl es275.2.2.2.2.2.2.2.2.1 (fun z284 hz284 => ?_)
            have tz284 := tf_98_2 I0
            refine h_iconst (pc' := 8) (x := (Int32.ofInt 1)) rfl rfl rfl ?_
            refine h_isub (pc' := 9) rfl rfl hz284 ci_1 rfl (by omega) (by omega) (fun z285 hz285 => ?_)
            refine h_i2l (pc' := 10) rfl rfl hz285 (fun z286 hz286 => ?_)
            refine h_calls (pc' := 13) (M := [(0, .long z283), (2, .long (Int64.ofInt 0)), (4, .long z286)]) rfl rfl rfl rfl rfl rfl ?_
            refine h_lload_n (pc' := 1) rfl rfl rfl ?_
            refine h_lload_n (pc' := 2) rfl rfl rfl ?_
            refine h_lcmp (pc' := 3) rfl rfl hz283 cl_0 (fun z287 hz287 => ?_)
            refine h_zlt (tg := 17) (pc' := 6) rfl rfl rfl rfl (fun c288 => absurd c288 (by omega)) (fun c288 => ?_)
            replace c288 := (h_lcr hz287).2.1 c288
            clear hz287
            refine h_lload_n (pc' := 7) rfl rfl rfl ?_
            refine h_lload (pc' := 9) rfl rfl rfl ?_
            refine h_lcmp (pc' := 10) rfl rfl hz283 hz286 (fun z289 hz289 => ?_)
            refine h_zgt (tg := 17) (pc' := 13) rfl rfl rfl rfl (fun c290 => absurd c290 (by omega)) (fun c290 => ?_)
            replace c290 := (h_lcr hz289).2.2.1 c290
            clear hz289
            refine h_iconst (pc' := 14) (x := (Int32.ofInt 1)) rfl rfl rfl ?_
            refine h_goto (pc' := 18) rfl rfl ?_
            refine h_zret rfl rfl ci_1 (by omega) (h_Kv ?_)
            refine h_zret rfl rfl ci_1 (by omega) (h_Kv ?_)
            refine h_zeq (tg := 72) (pc' := 52) rfl rfl rfl ci_1 (fun c291 => absurd c291 (by omega)) (fun c291 => ?_)
            refine h_iload_n (pc' := 53) rfl rfl rfl ?_
            refine h_zne (tg := 72) (pc' := 56) rfl rfl rfl hz279 (fun c292 => absurd (Int.le_antisymm (by omega) (by omega)) c292) (fun c292 => ?_)
            refine h_iload_n (pc' := 57) rfl rfl rfl ?_
            refine h_i2l (pc' := 58) rfl rfl hz281 (fun z293 hz293 => ?_)
            refine h_lconst (pc' := 59) (x := (Int64.ofInt 0)) rfl rfl rfl ?_
            refine h_ldc2 (pc' := 62) (x := (Int64.ofInt 9)) rfl rfl rfl ?_
            refine h_calls (pc' := 65) (M := [(0, .long z293), (2, .long (Int64.ofInt 0)), (4, .long (Int64.ofInt 9))]) rfl rfl rfl rfl rfl rfl ?_
            refine h_lload_n (pc' := 1) rfl rfl rfl ?_
            refine h_lload_n (pc' := 2) rfl rfl rfl ?_
            refine h_lcmp (pc' := 3) rfl rfl hz293 cl_0 (fun z294 hz294 => ?_)
            refine h_zlt (tg := 17) (pc' := 6) rfl rfl rfl rfl (fun c295 => absurd c295 (by omega)) (fun c295 => ?_)
            replace c295 := (h_lcr hz294).2.1 c295
            clear hz294
            refine h_lload_n (pc' := 7) rfl rfl rfl ?_
            refine h_lload (pc' := 9) rfl rfl rfl ?_
            refine h_lcmp (pc' := 10) rfl rfl hz293 cl_9 (fun z296 hz296 => ?_)
            refine h_zgt (tg := 17) (pc' := 13) rfl rfl rfl rfl (fun c297 => absurd c297 (by omega)) (fun c297 => ?_)
            replace c297 := (h_lcr hz296).2.2.1 c297
            clear hz296
            refine h_iconst (pc' := 14) (x := (Int32.ofInt 1)) rfl rfl rfl ?_
            refine h_goto (pc' := 18) rfl rfl ?_
            refine h_zret rfl rfl ci_1 (by omega) (h_Kv ?_)
            refine h_zeq (tg := 72) (pc' := 68) rfl rfl rfl ci_1 (fun c298 => absurd c298 (by omega)) (fun c298 => ?_)
            refine h_iconst (pc' := 69) (x := (Int32.ofInt 1)) rfl rfl rfl ?_
            refine h_goto (pc' := 73) rfl rfl ?_
            refine h_bipush (pc' := 75) (x := (Int32.ofInt 26)) rfl rfl cb_26 ?_
            refine h_iload_n (pc' := 76) rfl rfl rfl ?_
            refine h_iadd (pc' := 77) rfl rfl ci_26 hz277 rfl (by have g0 := h_rgv hz277; omega) (by have g0 := h_rgv hz277; omega) (fun z299 hz299 => ?_)
            refine h_iload_n (pc' := 78) rfl rfl rfl ?_
            refine h_iconst (pc' := 79) (x := (Int32.ofInt 0)) rfl rfl rfl ?_
            refine h_call (sp := false) (pc' := 82) (M := [(0, .ref 98), (1, .int (Int32.ofInt 1)), (2, .int z299), (3, .int z281), (4, .int (Int32.ofInt 0))]) rfl rfl rfl rfl rfl rfl rfl rfl ?_
            refine h_iload_n (pc' := 1) rfl rfl rfl ?_
            refine h_zne (tg := 6) (pc' := 4) rfl rfl rfl ci_1 (fun c300 => ?_) (fun c300 => absurd c300 (by omega))
            refine h_iload (pc' := 8) rfl rfl rfl ?_
            refine h_zne (tg := 20) (pc' := 11) rfl rfl rfl ci_0 (fun c301 => absurd (Int.le_antisymm (by omega) (by omega)) c301) (fun c301 => ?_)
            refine h_aload_n (pc' := 12) rfl rfl rfl ?_
            refine h_getR (pc' := 15) rfl rfl rfl rfl rfl ?_
            refine h_iload_n (pc' := 16) rfl rfl rfl ?_
            refine h_iald (pc' := 17) (v := s275 99 (26 + (s0 0 (b3 + 1)))) rfl rfl rfl hz299 (by omega) (by omega) rfl (fun z302 hz302 => ?_)
            have tz302 := ty_99_6 Is275 (26 + (s0 0 (b3 + 1))) (by omega)
            refine h_goto (pc' := 29) rfl rfl ?_
            refine h_istore (pc' := 31) (M := [(5, .int z302), (0, .ref 98), (1, .int (Int32.ofInt 1)), (2, .int z299), (3, .int z281), (4, .int (Int32.ofInt 0))]) rfl rfl rfl rfl ?_
            refine h_aload_n (pc' := 32) rfl rfl rfl ?_
            refine h_getR (pc' := 35) rfl rfl rfl rfl rfl ?_
            refine h_iload_n (pc' := 36) rfl rfl rfl ?_
            refine h_iload (pc' := 38) rfl rfl rfl ?_
            refine h_zne (tg := 45) (pc' := 41) rfl rfl rfl ci_0 (fun c303 => absurd (Int.le_antisymm (by omega) (by omega)) c303) (fun c303 => ?_)
            refine h_iload_n (pc' := 42) rfl rfl rfl ?_
            refine h_goto (pc' := 58) rfl rfl ?_
            refine h_iast (pc' := 59) rfl rfl rfl rfl hz299 (by omega) (by omega) hz281 (h_fgt (E := fun s => s 64 1 = s0 64 1 ∧ s 98 11 = s0 98 11 ∧ s 64 4 = s0 64 4 ∧ s 98 16 = s0 98 16 ∧ s 63 2 = s0 63 2 ∧ s 10 8 = s0 10 8 ∧ s 98 1 = s0 98 1 ∧ s 10 9 = s0 10 9 ∧ s 98 2 = s0 98 2 ∧ s 10 10 = s0 10 10 ∧ s 99 43 = s0 99 43 ∧ s 13 2 = s0 13 2 ∧ s 99 18 = s0 99 18 ∧ s 16 2 = s0 16 2 ∧ s 99 25 = s0 99 25 ∧ s 62 0 = s0 62 0 ∧ s 110 0 = s0 110 0 ∧ s 62 1 = s0 62 1 ∧ s 110 1 = s0 110 1 ∧ s = h_up s275 99 (26 + (s0 0 (b3 + 1))) (s0 0 (b3 + 3))) _ (ip_99_6 Is275 (by omega) (by omega)) (Fs275.up (k_ipg (p := 0) rfl rfl (by omega))) ⟨es275.1, es275.2.1, es275.2.2.1, es275.2.2.2.1, es275.2.2.2.2.1, es275.2.2.2.2.2.1, es275.2.2.2.2.2.2.1, es275.2.2.2.2.2.2.2.1, es275.2.2.2.2.2.2.2.2.1, es275.2.2.2.2.2.2.2.2.2.1, h_up_n2 (by omega) es275.2.2.2.2.2.2.2.2.2.2.1, es275.2.2.2.2.2.2.2.2.2.2.2.1, h_up_n2 (by omega) es275.2.2.2.2.2.2.2.2.2.2.2.2.1, es275.2.2.2.2.2.2.2.2.2.2.2.2.2.1, h_up_n2 (by omega) es275.2.2.2.2.2.2.2.2.2.2.2.2.2.2.1, es275.2.2.2.2.2.2.2.2.2.2.2.2.2.2.2.1, es275.2.2.2.2.2.2.2.2.2.2.2.2.2.2.2.2.1, es275.2.2.2.2.2.2.2.2.2.2.2.2.2.2.2.2.2.1, es275.2.2.2.2.2.2.2.2.2.2.2.2.2.2.2.2.2.2.1, rfl⟩ (fun s304 Is304 Fs304 (es304 : s304 64 1 = s0 64 1 ∧ s304 98 11 = s0 98 11 ∧ s304 64 4 = s0 64 4 ∧ s304 98 16 = s0 98 16 ∧ s304 63 2 = s0 63 2 ∧ s304 10 8 = s0 10 8 ∧ s304 98 1 = s0 98 1 ∧ s304 10 9 = s0 10 9 ∧ s304 98 2 = s0 98 2 ∧ s304 10 10 = s0 10 10 ∧ s304 99 43 = s0 99 43 ∧ s304 13 2 = s0 13 2 ∧ s304 99 18 = s0 99 18 ∧ s304 16 2 = s0 16 2 ∧ s304 99 25 = s0 99 25 ∧ s304 62 0 = s0 62 0 ∧ s304 110 0 = s0 110 0 ∧ s304 62 1 = s0 62 1 ∧ s304 110 1 = s0 110 1 ∧ s304 = h_up s275 99 (26 + (s0 0 (b3 + 1))) (s0 0 (b3 + 3))) => ?_))
            clear es275
            have us304 := es304.2.2.2.2.2.2.2.2.2.2.2.2.2.2.2.2.2.2.2
            have Zs304 : ∀ i, s304 0 i = s0 0 i := fun i => (h_upo us304 rfl i).trans (Zs275 i)
            refine h_iload (pc' := 61) rfl rfl rfl ?_
            refine h_iret rfl rfl (h_Kv ?_)
            refine h_iret rfl rfl (h_Kv ?_)
            refine h_pop (pc' := 677) rfl rfl rfl ?_
            refine h_goto (pc' := 1441) rfl rfl ?_
            exact kk _ Is304 (by first | exact d_tape.le j0 (Int.le_antisymm (by omega) (by omega)) (by omega) (fun j => (h_upo us304 rfl j).trans ((h_upo us275 rfl j))) (fun j => (h_upo us304 rfl j).trans ((h_upo us275 rfl j))) | (exfalso; omega)) (Int.le_antisymm (by omega) (by omega)) (c_R.rea j2 I0 (by omega) (by omega) (Int.le_antisymm (by omega) (by omega)) (fun j => (h_upo us304 rfl j).trans ((h_upi us275 j)))  (fun j => (h_upi us304 j).trans (congrArg (fun z => if j = (26 + (s0 0 (b3 + 1))) then (s0 0 (b3 + 3)) else z) ((h_upo us275 rfl j))))  (fun p j n0 n1 => (h_upq us304 n1 j).trans ((h_upq us275 n0 j))))
set_option maxHeartbeats 100000000 in
theorem g_case_680 {ns : Nat} (hns : ns ≤ 320) (s0 : h_S) (I0 : h_I s0) (j0 : d_tape s0 s0) (j1 : s0 64 4 = s0 98 16) (j2 : c_R false s0) (y3 : Int32) (b3 : Int) (hy3 : y3.toInt = b3) (hr : 0 ≤ b3 ∧ b3 + 5 ≤ ns) {Q : Option Value → h_S → Prop} (kk : ∀ τ, h_I τ → (d_tape τ τ) → (τ 64 4 = τ 98 16) → (c_R false τ) → h_T g_P (g_Y ns) 225 1441 [(0, .ref 0), (1, .ref 9), (2, .ref 98), (3, .int y3)] [] τ Q) : h_T g_P (g_Y ns) 225 680 [(0, .ref 0), (1, .ref 9), (2, .ref 98), (3, .int y3)] [] s0 Q := by
  have F0_ : h_F (fun _ _ => true) s0 s0 := h_F.rf
  have j0_ := j0.2
  have i0 := tf_64_1 I0
  have i1 := tf_98_11 I0
  have i2 := tf_64_4 I0
  have i3 := tf_98_16 I0
  have i4 := tf_63_2 I0
  have i5 := tf_10_8 I0
  have i6 := tf_98_1 I0
  have i7 := tf_10_9 I0
  have i8 := tf_98_2 I0
  have i9 := tf_10_10 I0
  have i11 := tf_13_2 I0
  have i13 := tf_16_2 I0
  have j2_ := j2.sz
  have j2i := j2.2.2.1
  have y43 := ty_99_10 I0 43 (by omega)
  have y18 := ty_99_3 I0 18 (by omega)
  have y25 := ty_99_5 I0 25 (by omega)
  have y62_0 := ty_62 I0 0
  have y62_1 := ty_62 I0 1
  have y110_0 := ty_110 I0 0
  have y110_1 := ty_110 I0 1
  refine h_aload_n (pc' := 681) rfl rfl rfl ?_
  refine h_aload_n (pc' := 682) rfl rfl rfl ?_
  refine h_iload_n (pc' := 683) rfl rfl rfl ?_
  refine h_iconst (pc' := 684) (x := (Int32.ofInt 1)) rfl rfl rfl ?_
  refine h_iadd (pc' := 685) rfl rfl hy3 ci_1 rfl (by omega) (by omega) (fun z1 hz1 => ?_)
  refine h_iald (pc' := 686) (v := s0 0 (b3 + 1)) rfl rfl rfl hz1 (by omega) (by omega) rfl (fun z2 hz2 => ?_)
  have tz2 := h_rgv hz2
  refine h_call (sp := false) (pc' := 689) (M := [(0, .ref 9), (1, .int z2)]) rfl rfl rfl rfl rfl rfl rfl rfl ?_
  refine h_iload_n (pc' := 1) rfl rfl rfl ?_
  refine h_zlt (tg := 32) (pc' := 4) rfl rfl rfl hz2 (fun c3 => ?_) (fun c3 => ?_)
  · refine h_iconst (pc' := 33) (x := (Int32.ofInt (-1))) rfl rfl rfl ?_
    refine h_iret rfl rfl (h_Kv ?_)
    refine h_pop (pc' := 690) rfl rfl rfl ?_
    refine h_aload_n (pc' := 691) rfl rfl rfl ?_
    refine h_aload_n (pc' := 692) rfl rfl rfl ?_
    refine h_iload_n (pc' := 693) rfl rfl rfl ?_
    refine h_iconst (pc' := 694) (x := (Int32.ofInt 1)) rfl rfl rfl ?_
    refine h_iadd (pc' := 695) rfl rfl hy3 ci_1 rfl (by omega) (by omega) (fun z4 hz4 => ?_)
    refine h_iald (pc' := 696) (v := s0 0 (b3 + 1)) rfl rfl rfl hz4 (by omega) (by omega) rfl (fun z5 hz5 => ?_)
    have tz5 := h_rgv hz5
    refine h_call (sp := false) (pc' := 699) (M := [(0, .ref 98), (1, .int z5)]) rfl rfl rfl rfl rfl rfl rfl rfl ?_
    refine h_iload_n (pc' := 1) rfl rfl rfl ?_
    refine h_zlt (tg := 26) (pc' := 4) rfl rfl rfl hz5 (fun c6 => ?_) (fun c6 => absurd c6 (by omega))
    refine h_iconst (pc' := 27) (x := (Int32.ofInt (-1))) rfl rfl rfl ?_
    refine h_iret rfl rfl (h_Kv ?_)
    refine h_pop (pc' := 700) rfl rfl rfl ?_
    refine h_goto (pc' := 1441) rfl rfl ?_
    exact kk _ I0 (by first | exact d_tape.le j0 (Int.le_antisymm (by omega) (by omega)) (by omega) (fun j => rfl) (fun j => rfl) | (exfalso; omega)) (Int.le_antisymm (by omega) (by omega)) j2
  · refine h_aload_n (pc' := 5) rfl rfl rfl ?_
    refine h_getR (pc' := 8) rfl rfl rfl rfl rfl ?_
    refine h_iload_n (pc' := 9) rfl rfl rfl ?_
    refine h_bipush (pc' := 11) (x := (Int32.ofInt 10)) rfl rfl cb_10 ?_
    refine h_idiv (pc' := 12) rfl rfl hz2 ci_10 (by omega) (by omega) (fun z7 hz7 => ?_)
    refine h_call (sp := false) (pc' := 15) (M := [(0, .ref 10), (1, .int z7)]) rfl rfl rfl rfl rfl rfl rfl rfl ?_
    refine h_iload_n (pc' := 1) rfl rfl rfl ?_
    refine h_zlt (tg := 16) (pc' := 4) rfl rfl rfl hz7 (fun c8 => absurd c8 (by omega)) (fun c8 => ?_)
    refine h_iload_n (pc' := 5) rfl rfl rfl ?_
    refine h_aload_n (pc' := 6) rfl rfl rfl ?_
    refine h_getI (pc' := 9) (v := s0 10 8) rfl rfl rfl rfl rfl rfl (fun z9 hz9 => ?_)
    have tz9 := tf_10_8 I0
    refine h_cge (tg := 16) (pc' := 12) rfl rfl rfl hz7 hz9 (fun c10 => ?_) (fun c10 => ?_)
    · refine h_iconst (pc' := 17) (x := (Int32.ofInt 0)) rfl rfl rfl ?_
      refine h_zret rfl rfl ci_0 (by omega) (h_Kv ?_)
      refine h_zeq (tg := 32) (pc' := 18) rfl rfl rfl ci_0 (fun c11 => ?_) (fun c11 => absurd (Int.le_antisymm (by omega) (by omega)) c11)
      refine h_iconst (pc' := 33) (x := (Int32.ofInt (-1))) rfl rfl rfl ?_
      refine h_iret rfl rfl (h_Kv ?_)
      refine h_pop (pc' := 690) rfl rfl rfl ?_
      refine h_aload_n (pc' := 691) rfl rfl rfl ?_
      refine h_aload_n (pc' := 692) rfl rfl rfl ?_
      refine h_iload_n (pc' := 693) rfl rfl rfl ?_
      refine h_iconst (pc' := 694) (x := (Int32.ofInt 1)) rfl rfl rfl ?_
      refine h_iadd (pc' := 695) rfl rfl hy3 ci_1 rfl (by omega) (by omega) (fun z12 hz12 => ?_)
      refine h_iald (pc' := 696) (v := s0 0 (b3 + 1)) rfl rfl rfl hz12 (by omega) (by omega) rfl (fun z13 hz13 => ?_)
      have tz13 := h_rgv hz13
      refine h_call (sp := false) (pc' := 699) (M := [(0, .ref 98), (1, .int z13)]) rfl rfl rfl rfl rfl rfl rfl rfl ?_
      refine h_iload_n (pc' := 1) rfl rfl rfl ?_
      refine h_zlt (tg := 26) (pc' := 4) rfl rfl rfl hz13 (fun c14 => absurd c14 (by omega)) (fun c14 => ?_)
      refine h_aload_n (pc' := 5) rfl rfl rfl ?_
      refine h_iload_n (pc' := 6) rfl rfl rfl ?_
      refine h_bipush (pc' := 8) (x := (Int32.ofInt 10)) rfl rfl cb_10 ?_
      refine h_idiv (pc' := 9) rfl rfl hz13 ci_10 (by omega) (by omega) (fun z15 hz15 => ?_)
      refine h_call (sp := false) (pc' := 12) (M := [(0, .ref 98), (1, .int z15)]) rfl rfl rfl rfl rfl rfl rfl rfl ?_
      refine h_iload_n (pc' := 1) rfl rfl rfl ?_
      refine h_i2l (pc' := 2) rfl rfl hz15 (fun z16 hz16 => ?_)
      refine h_lconst (pc' := 3) (x := (Int64.ofInt 0)) rfl rfl rfl ?_
      refine h_aload_n (pc' := 4) rfl rfl rfl ?_
      refine h_getI (pc' := 7) (v := s0 98 1) rfl rfl rfl rfl rfl rfl (fun z17 hz17 => ?_)
      have tz17 := tf_98_1 I0
      refine h_iconst (pc' := 8) (x := (Int32.ofInt 1)) rfl rfl rfl ?_
      refine h_isub (pc' := 9) rfl rfl hz17 ci_1 rfl (by omega) (by omega) (fun z18 hz18 => ?_)
      refine h_i2l (pc' := 10) rfl rfl hz18 (fun z19 hz19 => ?_)
      refine h_calls (pc' := 13) (M := [(0, .long z16), (2, .long (Int64.ofInt 0)), (4, .long z19)]) rfl rfl rfl rfl rfl rfl ?_
      refine h_lload_n (pc' := 1) rfl rfl rfl ?_
      refine h_lload_n (pc' := 2) rfl rfl rfl ?_
      refine h_lcmp (pc' := 3) rfl rfl hz16 cl_0 (fun z20 hz20 => ?_)
      refine h_zlt (tg := 17) (pc' := 6) rfl rfl rfl rfl (fun c21 => absurd c21 (by omega)) (fun c21 => ?_)
      replace c21 := (h_lcr hz20).2.1 c21
      clear hz20
      refine h_lload_n (pc' := 7) rfl rfl rfl ?_
      refine h_lload (pc' := 9) rfl rfl rfl ?_
      refine h_lcmp (pc' := 10) rfl rfl hz16 hz19 (fun z22 hz22 => ?_)
      refine h_zgt (tg := 17) (pc' := 13) rfl rfl rfl rfl (fun c23 => ?_) (fun c23 => absurd c23 (by omega))
      replace c23 := (h_lcr hz22).2.2.2.1 c23
      clear hz22
      refine h_iconst (pc' := 18) (x := (Int32.ofInt 0)) rfl rfl rfl ?_
      refine h_zret rfl rfl ci_0 (by omega) (h_Kv ?_)
      refine h_zret rfl rfl ci_0 (by omega) (h_Kv ?_)
      refine h_zeq (tg := 26) (pc' := 15) rfl rfl rfl ci_0 (fun c24 => ?_) (fun c24 => absurd (Int.le_antisymm (by omega) (by omega)) c24)
      refine h_iconst (pc' := 27) (x := (Int32.ofInt (-1))) rfl rfl rfl ?_
      refine h_iret rfl rfl (h_Kv ?_)
      refine h_pop (pc' := 700) rfl rfl rfl ?_
      refine h_goto (pc' := 1441) rfl rfl ?_
      exact kk _ I0 (by first | exact d_tape.le j0 (Int.le_antisymm (by omega) (by omega)) (by omega) (fun j => rfl) (fun j => rfl) | (exfalso; omega)) (Int.le_antisymm (by omega) (by omega)) j2
    · refine h_iconst (pc' := 13) (x := (Int32.ofInt 1)) rfl rfl rfl ?_
      refine h_goto (pc' := 17) rfl rfl ?_
      refine h_zret rfl rfl ci_1 (by omega) (h_Kv ?_)
      refine h_zeq (tg := 32) (pc' := 18) rfl rfl rfl ci_1 (fun c25 => absurd c25 (by omega)) (fun c25 => ?_)
      refine h_aload_n (pc' := 19) rfl rfl rfl ?_
      refine h_getR (pc' := 22) rfl rfl rfl rfl rfl ?_
      refine h_iload_n (pc' := 23) rfl rfl rfl ?_
      refine h_bipush (pc' := 25) (x := (Int32.ofInt 10)) rfl rfl cb_10 ?_
      refine h_irem (pc' := 26) rfl rfl hz2 ci_10 (by omega) (by omega) (fun z26 hz26 => ?_)
      refine h_call (sp := false) (pc' := 29) (M := [(0, .ref 10), (1, .int z26)]) rfl rfl rfl rfl rfl rfl rfl rfl ?_
      refine h_iload_n (pc' := 1) rfl rfl rfl ?_
      refine h_zlt (tg := 16) (pc' := 4) rfl rfl rfl hz26 (fun c27 => absurd c27 (by omega)) (fun c27 => ?_)
      refine h_iload_n (pc' := 5) rfl rfl rfl ?_
      refine h_aload_n (pc' := 6) rfl rfl rfl ?_
      refine h_getI (pc' := 9) (v := s0 10 9) rfl rfl rfl rfl rfl rfl (fun z28 hz28 => ?_)
      have tz28 := tf_10_9 I0
      refine h_cge (tg := 16) (pc' := 12) rfl rfl rfl hz26 hz28 (fun c29 => ?_) (fun c29 => ?_)
      · refine h_iconst (pc' := 17) (x := (Int32.ofInt 0)) rfl rfl rfl ?_
        refine h_zret rfl rfl ci_0 (by omega) (h_Kv ?_)
        refine h_zne (tg := 34) (pc' := 32) rfl rfl rfl ci_0 (fun c30 => absurd (Int.le_antisymm (by omega) (by omega)) c30) (fun c30 => ?_)
        refine h_iconst (pc' := 33) (x := (Int32.ofInt (-1))) rfl rfl rfl ?_
        refine h_iret rfl rfl (h_Kv ?_)
        refine h_pop (pc' := 690) rfl rfl rfl ?_
        refine h_aload_n (pc' := 691) rfl rfl rfl ?_
        refine h_aload_n (pc' := 692) rfl rfl rfl ?_
        refine h_iload_n (pc' := 693) rfl rfl rfl ?_
        refine h_iconst (pc' := 694) (x := (Int32.ofInt 1)) rfl rfl rfl ?_
        refine h_iadd (pc' := 695) rfl rfl hy3 ci_1 rfl (by omega) (by omega) (fun z31 hz31 => ?_)
        refine h_iald (pc' := 696) (v := s0 0 (b3 + 1)) rfl rfl rfl hz31 (by omega) (by omega) rfl (fun z32 hz32 => ?_)
        have tz32 := h_rgv hz32
        refine h_call (sp := false) (pc' := 699) (M := [(0, .ref 98), (1, .int z32)]) rfl rfl rfl rfl rfl rfl rfl rfl ?_
        refine h_iload_n (pc' := 1) rfl rfl rfl ?_
        refine h_zlt (tg := 26) (pc' := 4) rfl rfl rfl hz32 (fun c33 => absurd c33 (by omega)) (fun c33 => ?_)
        refine h_aload_n (pc' := 5) rfl rfl rfl ?_
        refine h_iload_n (pc' := 6) rfl rfl rfl ?_
        refine h_bipush (pc' := 8) (x := (Int32.ofInt 10)) rfl rfl cb_10 ?_
        refine h_idiv (pc' := 9) rfl rfl hz32 ci_10 (by omega) (by omega) (fun z34 hz34 => ?_)
        refine h_call (sp := false) (pc' := 12) (M := [(0, .ref 98), (1, .int z34)]) rfl rfl rfl rfl rfl rfl rfl rfl ?_
        refine h_iload_n (pc' := 1) rfl rfl rfl ?_
        refine h_i2l (pc' := 2) rfl rfl hz34 (fun z35 hz35 => ?_)
        refine h_lconst (pc' := 3) (x := (Int64.ofInt 0)) rfl rfl rfl ?_
        refine h_aload_n (pc' := 4) rfl rfl rfl ?_
        refine h_getI (pc' := 7) (v := s0 98 1) rfl rfl rfl rfl rfl rfl (fun z36 hz36 => ?_)
        have tz36 := tf_98_1 I0
        refine h_iconst (pc' := 8) (x := (Int32.ofInt 1)) rfl rfl rfl ?_
        refine h_isub (pc' := 9) rfl rfl hz36 ci_1 rfl (by omega) (by omega) (fun z37 hz37 => ?_)
        refine h_i2l (pc' := 10) rfl rfl hz37 (fun z38 hz38 => ?_)
        refine h_calls (pc' := 13) (M := [(0, .long z35), (2, .long (Int64.ofInt 0)), (4, .long z38)]) rfl rfl rfl rfl rfl rfl ?_
        refine h_lload_n (pc' := 1) rfl rfl rfl ?_
        refine h_lload_n (pc' := 2) rfl rfl rfl ?_
        refine h_lcmp (pc' := 3) rfl rfl hz35 cl_0 (fun z39 hz39 => ?_)
        refine h_zlt (tg := 17) (pc' := 6) rfl rfl rfl rfl (fun c40 => absurd c40 (by omega)) (fun c40 => ?_)
        replace c40 := (h_lcr hz39).2.1 c40
        clear hz39
        refine h_lload_n (pc' := 7) rfl rfl rfl ?_
        refine h_lload (pc' := 9) rfl rfl rfl ?_
        refine h_lcmp (pc' := 10) rfl rfl hz35 hz38 (fun z41 hz41 => ?_)
        refine h_zgt (tg := 17) (pc' := 13) rfl rfl rfl rfl (fun c42 => absurd c42 (by omega)) (fun c42 => ?_)
        replace c42 := (h_lcr hz41).2.2.1 c42
        clear hz41
        refine h_iconst (pc' := 14) (x := (Int32.ofInt 1)) rfl rfl rfl ?_
        refine h_goto (pc' := 18) rfl rfl ?_
        refine h_zret rfl rfl ci_1 (by omega) (h_Kv ?_)
        refine h_zret rfl rfl ci_1 (by omega) (h_Kv ?_)
        refine h_zeq (tg := 26) (pc' := 15) rfl rfl rfl ci_1 (fun c43 => absurd c43 (by omega)) (fun c43 => ?_)
        refine h_aload_n (pc' := 16) rfl rfl rfl ?_
        refine h_iload_n (pc' := 17) rfl rfl rfl ?_
        refine h_bipush (pc' := 19) (x := (Int32.ofInt 10)) rfl rfl cb_10 ?_
        refine h_irem (pc' := 20) rfl rfl hz32 ci_10 (by omega) (by omega) (fun z44 hz44 => ?_)
        refine h_call (sp := false) (pc' := 23) (M := [(0, .ref 98), (1, .int z44)]) rfl rfl rfl rfl rfl rfl rfl rfl ?_
        refine h_iload_n (pc' := 1) rfl rfl rfl ?_
        refine h_i2l (pc' := 2) rfl rfl hz44 (fun z45 hz45 => ?_)
        refine h_lconst (pc' := 3) (x := (Int64.ofInt 0)) rfl rfl rfl ?_
        refine h_aload_n (pc' := 4) rfl rfl rfl ?_
        refine h_getI (pc' := 7) (v := s0 98 2) rfl rfl rfl rfl rfl rfl (fun z46 hz46 => ?_)
        have tz46 := tf_98_2 I0
        refine h_iconst (pc' := 8) (x := (Int32.ofInt 1)) rfl rfl rfl ?_
        refine h_isub (pc' := 9) rfl rfl hz46 ci_1 rfl (by omega) (by omega) (fun z47 hz47 => ?_)
        refine h_i2l (pc' := 10) rfl rfl hz47 (fun z48 hz48 => ?_)
        refine h_calls (pc' := 13) (M := [(0, .long z45), (2, .long (Int64.ofInt 0)), (4, .long z48)]) rfl rfl rfl rfl rfl rfl ?_
        refine h_lload_n (pc' := 1) rfl rfl rfl ?_
        refine h_lload_n (pc' := 2) rfl rfl rfl ?_
        refine h_lcmp (pc' := 3) rfl rfl hz45 cl_0 (fun z49 hz49 => ?_)
        refine h_zlt (tg := 17) (pc' := 6) rfl rfl rfl rfl (fun c50 => absurd c50 (by omega)) (fun c50 => ?_)
        replace c50 := (h_lcr hz49).2.1 c50
        clear hz49
        refine h_lload_n (pc' := 7) rfl rfl rfl ?_
        refine h_lload (pc' := 9) rfl rfl rfl ?_
        refine h_lcmp (pc' := 10) rfl rfl hz45 hz48 (fun z51 hz51 => ?_)
        refine h_zgt (tg := 17) (pc' := 13) rfl rfl rfl rfl (fun c52 => ?_) (fun c52 => absurd c52 (by omega))
        replace c52 := (h_lcr hz51).2.2.2.1 c52
        clear hz51
        refine h_iconst (pc' := 18) (x := (Int32.ofInt 0)) rfl rfl rfl ?_
        refine h_zret rfl rfl ci_0 (by omega) (h_Kv ?_)
        refine h_zret rfl rfl ci_0 (by omega) (h_Kv ?_)
        refine h_zne (tg := 28) (pc' := 26) rfl rfl rfl ci_0 (fun c53 => absurd (Int.le_antisymm (by omega) (by omega)) c53) (fun c53 => ?_)
        refine h_iconst (pc' := 27) (x := (Int32.ofInt (-1))) rfl rfl rfl ?_
        refine h_iret rfl rfl (h_Kv ?_)
        refine h_pop (pc' := 700) rfl rfl rfl ?_
        refine h_goto (pc' := 1441) rfl rfl ?_
        exact kk _ I0 (by first | exact d_tape.le j0 (Int.le_antisymm (by omega) (by omega)) (by omega) (fun j => rfl) (fun j => rfl) | (exfalso; omega)) (Int.le_antisymm (by omega) (by omega)) j2
      · refine h_iconst (pc' := 13) (x := (Int32.ofInt 1)) rfl rfl rfl ?_
        refine h_goto (pc' := 17) rfl rfl ?_
        refine h_zret rfl rfl ci_1 (by omega) (h_Kv ?_)
        refine h_zne (tg := 34) (pc' := 32) rfl rfl rfl ci_1 (fun c54 => ?_) (fun c54 => absurd c54 (by omega))
        refine h_aload_n (pc' := 35) rfl rfl rfl ?_
        refine h_getR (pc' := 38) rfl rfl rfl rfl rfl ?_
        refine h_getI (pc' := 41) (v := s0 10 10) rfl rfl rfl rfl rfl rfl (fun z55 hz55 => ?_)
        have tz55 := tf_10_10 I0
        refine h_bipush (pc' := 43) (x := (Int32.ofInt 8)) rfl rfl cb_8 ?_
        refine h_clt (tg := 49) (pc' := 46) rfl rfl rfl hz55 ci_8 (fun c56 => ?_) (fun c56 => ?_)
        · refine h_aload_n (pc' := 50) rfl rfl rfl ?_
          refine h_getR (pc' := 53) rfl rfl rfl rfl rfl ?_
          refine h_iload_n (pc' := 54) rfl rfl rfl ?_
          refine h_call (sp := false) (pc' := 57) (M := [(0, .ref 10), (1, .int z2)]) rfl rfl rfl rfl rfl rfl rfl rfl ?_
          refine h_aload_n (pc' := 1) rfl rfl rfl ?_
          refine h_getI (pc' := 4) (v := s0 10 10) rfl rfl rfl rfl rfl rfl (fun z57 hz57 => ?_)
          have tz57 := tf_10_10 I0
          refine h_bipush (pc' := 6) (x := (Int32.ofInt 8)) rfl rfl cb_8 ?_
          refine h_cge (tg := 29) (pc' := 9) rfl rfl rfl hz57 ci_8 (fun c58 => absurd c58 (by omega)) (fun c58 => ?_)
          refine h_aload_n (pc' := 10) rfl rfl rfl ?_
          refine h_getR (pc' := 13) rfl rfl rfl rfl rfl ?_
          refine h_aload_n (pc' := 14) rfl rfl rfl ?_
          refine h_getI (pc' := 17) (v := s0 10 10) rfl rfl rfl rfl rfl rfl (fun z59 hz59 => ?_)
          have tz59 := tf_10_10 I0
          refine h_iload_n (pc' := 18) rfl rfl rfl ?_
          refine h_iast (pc' := 19) rfl rfl rfl rfl hz59 (by omega) (by omega) hz2 (h_fgt (E := fun s => s 64 1 = s0 64 1 ∧ s 98 11 = s0 98 11 ∧ s 64 4 = s0 64 4 ∧ s 98 16 = s0 98 16 ∧ s 63 2 = s0 63 2 ∧ s 10 8 = s0 10 8 ∧ s 98 1 = s0 98 1 ∧ s 10 9 = s0 10 9 ∧ s 98 2 = s0 98 2 ∧ s 10 10 = s0 10 10 ∧ s 99 43 = s0 99 43 ∧ s 13 2 = s0 13 2 ∧ s 99 18 = s0 99 18 ∧ s 16 2 = s0 16 2 ∧ s 99 25 = s0 99 25 ∧ s 62 0 = s0 62 0 ∧ s 110 0 = s0 110 0 ∧ s 62 1 = s0 62 1 ∧ s 110 1 = s0 110 1 ∧ s = h_up s0 22 (s0 10 10) (s0 0 (b3 + 1))) _ (in_22 I0 (by omega)) (F0_.up rfl) ⟨rfl, rfl, rfl, rfl, rfl, rfl, rfl, rfl, rfl, rfl, rfl, rfl, rfl, rfl, rfl, rfl, rfl, rfl, rfl, rfl⟩ (fun s60 Is60 Fs60 (es60 : s60 64 1 = s0 64 1 ∧ s60 98 11 = s0 98 11 ∧ s60 64 4 = s0 64 4 ∧ s60 98 16 = s0 98 16 ∧ s60 63 2 = s0 63 2 ∧ s60 10 8 = s0 10 8 ∧ s60 98 1 = s0 98 1 ∧ s60 10 9 = s0 10 9 ∧ s60 98 2 = s0 98 2 ∧ s60 10 10 = s0 10 10 ∧ s60 99 43 = s0 99 43 ∧ s60 13 2 = s0 13 2 ∧ s60 99 18 = s0 99 18 ∧ s60 16 2 = s0 16 2 ∧ s60 99 25 = s0 99 25 ∧ s60 62 0 = s0 62 0 ∧ s60 110 0 = s0 110 0 ∧ s60 62 1 = s0 62 1 ∧ s60 110 1 = s0 110 1 ∧ s60 = h_up s0 22 (s0 10 10) (s0 0 (b3 + 1))) => ?_))
          have us60 := es60.2.2.2.2.2.2.2.2.2.2.2.2.2.2.2.2.2.2.2
          have Zs60 : ∀ i, s60 0 i = s0 0 i := fun i => (h_upo us60 rfl i).trans rfl
          refine h_aload_n (pc' := 20) rfl rfl rfl ?_
          refine h_dup (pc' := 21) rfl rfl rfl ?_
          refine h_getI (pc' := 24) (v := s0 10 10) rfl rfl rfl rfl rfl es60.2.2.2.2.2.2.2.2.2.1 (fun z61 hz61 => ?_)
          have tz61 := tf_10_10 I0
          refine h_iconst (pc' := 25) (x := (Int32.ofInt 1)) rfl rfl rfl ?_
          refine h_iadd (pc' := 26) rfl rfl hz61 ci_1 rfl (by omega) (by omega) (fun z62 hz62 => ?_)
          refine h_put (pc' := 29) rfl rfl rfl rfl rfl rfl hz62 rfl (h_fgt (E := fun s => s 64 1 = s0 64 1 ∧ s 98 11 = s0 98 11 ∧ s 64 4 = s0 64 4 ∧ s 98 16 = s0 98 16 ∧ s 63 2 = s0 63 2 ∧ s 10 8 = s0 10 8 ∧ s 98 1 = s0 98 1 ∧ s 10 9 = s0 10 9 ∧ s 98 2 = s0 98 2 ∧ s 10 10 = ((s0 10 10) + 1) ∧ s 99 43 = s0 99 43 ∧ s 13 2 = s0 13 2 ∧ s 99 18 = s0 99 18 ∧ s 16 2 = s0 16 2 ∧ s 99 25 = s0 99 25 ∧ s 62 0 = s0 62 0 ∧ s 110 0 = s0 110 0 ∧ s 62 1 = s0 62 1 ∧ s 110 1 = s0 110 1 ∧ s = h_up s60 10 10 ((s0 10 10) + 1)) _ (if_10_10 Is60 (by omega)) (Fs60.up rfl) ⟨es60.1, es60.2.1, es60.2.2.1, es60.2.2.2.1, es60.2.2.2.2.1, es60.2.2.2.2.2.1, es60.2.2.2.2.2.2.1, es60.2.2.2.2.2.2.2.1, es60.2.2.2.2.2.2.2.2.1, rfl, es60.2.2.2.2.2.2.2.2.2.2.1, es60.2.2.2.2.2.2.2.2.2.2.2.1, es60.2.2.2.2.2.2.2.2.2.2.2.2.1, es60.2.2.2.2.2.2.2.2.2.2.2.2.2.1, es60.2.2.2.2.2.2.2.2.2.2.2.2.2.2.1, es60.2.2.2.2.2.2.2.2.2.2.2.2.2.2.2.1, es60.2.2.2.2.2.2.2.2.2.2.2.2.2.2.2.2.1, es60.2.2.2.2.2.2.2.2.2.2.2.2.2.2.2.2.2.1, es60.2.2.2.2.2.2.2.2.2.2.2.2.2.2.2.2.2.2.1, rfl⟩ (fun s63 Is63 Fs63 (es63 : s63 64 1 = s0 64 1 ∧ s63 98 11 = s0 98 11 ∧ s63 64 4 = s0 64 4 ∧ s63 98 16 = s0 98 16 ∧ s63 63 2 = s0 63 2 ∧ s63 10 8 = s0 10 8 ∧ s63 98 1 = s0 98 1 ∧ s63 10 9 = s0 10 9 ∧ s63 98 2 = s0 98 2 ∧ s63 10 10 = ((s0 10 10) + 1) ∧ s63 99 43 = s0 99 43 ∧ s63 13 2 = s0 13 2 ∧ s63 99 18 = s0 99 18 ∧ s63 16 2 = s0 16 2 ∧ s63 99 25 = s0 99 25 ∧ s63 62 0 = s0 62 0 ∧ s63 110 0 = s0 110 0 ∧ s63 62 1 = s0 62 1 ∧ s63 110 1 = s0 110 1 ∧ s63 = h_up s60 10 10 ((s0 10 10) + 1)) => ?_))
          clear es60
          have us63 := es63.2.2.2.2.2.2.2.2.2.2.2.2.2.2.2.2.2.2.2
          have Zs63 : ∀ i, s63 0 i = s0 0 i := fun i => (h_upo us63 rfl i).trans (Zs60 i)
          refine h_vret rfl rfl (h_Kn ?_)
          refine h_aload_n (pc' := 58) rfl rfl rfl ?_
          refine h_getR (pc' := 61) rfl rfl rfl rfl rfl ?_
          refine h_getI (pc' := 64) (v := ((s0 10 10) + 1)) rfl rfl rfl rfl rfl es63.2.2.2.2.2.2.2.2.2.1 (fun z64 hz64 => ?_)
          refine h_iret rfl rfl (h_Kv ?_)
          refine h_pop (pc' := 690) rfl rfl rfl ?_
          refine h_aload_n (pc' := 691) rfl rfl rfl ?_
          refine h_aload_n (pc' := 692) rfl rfl rfl ?_
          refine h_iload_n (pc' := 693) rfl rfl rfl ?_
          refine h_iconst (pc' := 694) (x := (Int32.ofInt 1)) rfl rfl rfl ?_
          refine h_iadd (pc' := 695) rfl rfl hy3 ci_1 rfl (by omega) (by omega) (fun z65 hz65 => ?_)
          refine h_iald (pc' := 696) (v := s0 0 (b3 + 1)) rfl rfl rfl hz65 (by omega) (by omega) (Zs63 _) (fun z66 hz66 => ?_)
          have tz66 := h_rgv hz66
          refine h_call (sp := false) (pc' := 699) (M := [(0, .ref 98), (1, .int z66)]) rfl rfl rfl rfl rfl rfl rfl rfl ?_
          refine h_iload_n (pc' := 1) rfl rfl rfl ?_
          refine h_zlt (tg := 26) (pc' := 4) rfl rfl rfl hz66 (fun c67 => absurd c67 (by omega)) (fun c67 => ?_)
          refine h_aload_n (pc' := 5) rfl rfl rfl ?_
          refine h_iload_n (pc' := 6) rfl rfl rfl ?_
          refine h_bipush (pc' := 8) (x := (Int32.ofInt 10)) rfl rfl cb_10 ?_
          refine h_idiv (pc' := 9) rfl rfl hz66 ci_10 (by omega) (by omega) (fun z68 hz68 => ?_)
          refine h_call (sp := false) (pc' := 12) (M := [(0, .ref 98), (1, .int z68)]) rfl rfl rfl rfl rfl rfl rfl rfl ?_
          refine h_iload_n (pc' := 1) rfl rfl rfl ?_
          refine h_i2l (pc' := 2) rfl rfl hz68 (fun z69 hz69 => ?_)
          refine h_lconst (pc' := 3) (x := (Int64.ofInt 0)) rfl rfl rfl ?_
          refine h_aload_n (pc' := 4) rfl rfl rfl ?_
          refine h_getI (pc' := 7) (v := s0 98 1) rfl rfl rfl rfl rfl es63.2.2.2.2.2.2.1 (fun z70 hz70 => ?_)
          have tz70 := tf_98_1 I0
          refine h_iconst (pc' := 8) (x := (Int32.ofInt 1)) rfl rfl rfl ?_
          refine h_isub (pc' := 9) rfl rfl hz70 ci_1 rfl (by omega) (by omega) (fun z71 hz71 => ?_)
          refine h_i2l (pc' := 10) rfl rfl hz71 (fun z72 hz72 => ?_)
          refine h_calls (pc' := 13) (M := [(0, .long z69), (2, .long (Int64.ofInt 0)), (4, .long z72)]) rfl rfl rfl rfl rfl rfl ?_
          refine h_lload_n (pc' := 1) rfl rfl rfl ?_
          refine h_lload_n (pc' := 2) rfl rfl rfl ?_
          refine h_lcmp (pc' := 3) rfl rfl hz69 cl_0 (fun z73 hz73 => ?_)
          refine h_zlt (tg := 17) (pc' := 6) rfl rfl rfl rfl (fun c74 => absurd c74 (by omega)) (fun c74 => ?_)
          replace c74 := (h_lcr hz73).2.1 c74
          clear hz73
          refine h_lload_n (pc' := 7) rfl rfl rfl ?_
          refine h_lload (pc' := 9) rfl rfl rfl ?_
          refine h_lcmp (pc' := 10) rfl rfl hz69 hz72 (fun z75 hz75 => ?_)
          refine h_zgt (tg := 17) (pc' := 13) rfl rfl rfl rfl (fun c76 => absurd c76 (by omega)) (fun c76 => ?_)
          replace c76 := (h_lcr hz75).2.2.1 c76
          clear hz75
          refine h_iconst (pc' := 14) (x := (Int32.ofInt 1)) rfl rfl rfl ?_
          refine h_goto (pc' := 18) rfl rfl ?_
          refine h_zret rfl rfl ci_1 (by omega) (h_Kv ?_)
          refine h_zret rfl rfl ci_1 (by omega) (h_Kv ?_)
          refine h_zeq (tg := 26) (pc' := 15) rfl rfl rfl ci_1 (fun c77 => absurd c77 (by omega)) (fun c77 => ?_)
          refine h_aload_n (pc' := 16) rfl rfl rfl ?_
          refine h_iload_n (pc' := 17) rfl rfl rfl ?_
          refine h_bipush (pc' := 19) (x := (Int32.ofInt 10)) rfl rfl cb_10 ?_
          refine h_irem (pc' := 20) rfl rfl hz66 ci_10 (by omega) (by omega) (fun z78 hz78 => ?_)
          refine h_call (sp := false) (pc' := 23) (M := [(0, .ref 98), (1, .int z78)]) rfl rfl rfl rfl rfl rfl rfl rfl ?_
          refine h_iload_n (pc' := 1) rfl rfl rfl ?_
          refine h_i2l (pc' := 2) rfl rfl hz78 (fun z79 hz79 => ?_)
          refine h_lconst (pc' := 3) (x := (Int64.ofInt 0)) rfl rfl rfl ?_
          refine h_aload_n (pc' := 4) rfl rfl rfl ?_
          refine h_getI (pc' := 7) (v := s0 98 2) rfl rfl rfl rfl rfl es63.2.2.2.2.2.2.2.2.1 (fun z80 hz80 => ?_)
          have tz80 := tf_98_2 I0
          refine h_iconst (pc' := 8) (x := (Int32.ofInt 1)) rfl rfl rfl ?_
          refine h_isub (pc' := 9) rfl rfl hz80 ci_1 rfl (by omega) (by omega) (fun z81 hz81 => ?_)
          refine h_i2l (pc' := 10) rfl rfl hz81 (fun z82 hz82 => ?_)
          refine h_calls (pc' := 13) (M := [(0, .long z79), (2, .long (Int64.ofInt 0)), (4, .long z82)]) rfl rfl rfl rfl rfl rfl ?_
          refine h_lload_n (pc' := 1) rfl rfl rfl ?_
          refine h_lload_n (pc' := 2) rfl rfl rfl ?_
          refine h_lcmp (pc' := 3) rfl rfl hz79 cl_0 (fun z83 hz83 => ?_)
          refine h_zlt (tg := 17) (pc' := 6) rfl rfl rfl rfl (fun c84 => absurd c84 (by omega)) (fun c84 => ?_)
          replace c84 := (h_lcr hz83).2.1 c84
          clear hz83
          refine h_lload_n (pc' := 7) rfl rfl rfl ?_
          refine h_lload (pc' := 9) rfl rfl rfl ?_
          refine h_lcmp (pc' := 10) rfl rfl hz79 hz82 (fun z85 hz85 => ?_)
          refine h_zgt (tg := 17) (pc' := 13) rfl rfl rfl rfl (fun c86 => absurd c86 (by omega)) (fun c86 => ?_)
          replace c86 := (h_lcr hz85).2.2.1 c86
          clear hz85
          refine h_iconst (pc' := 14) (x := (Int32.ofInt 1)) rfl rfl rfl ?_
          refine h_goto (pc' := 18) rfl rfl ?_
          refine h_zret rfl rfl ci_1 (by omega) (h_Kv ?_)
          refine h_zret rfl rfl ci_1 (by omega) (h_Kv ?_)
          refine h_zne (tg := 28) (pc' := 26) rfl rfl rfl ci_1 (fun c87 => ?_) (fun c87 => absurd c87 (by omega))
          refine h_aload_n (pc' := 29) rfl rfl rfl ?_
          refine h_getR (pc' := 32) rfl rfl rfl rfl rfl ?_
          refine h_bipush (pc' := 34) (x := (Int32.ofInt 43)) rfl rfl cb_43 ?_
          refine h_iald (pc' := 35) (v := s0 99 43) rfl rfl rfl ci_43 (by omega) (by omega) es63.2.2.2.2.2.2.2.2.2.2.1 (fun z88 hz88 => ?_)
          have tz88 := ty_99_10 I0 43 (by omega)
          refine h_bipush (pc' := 37) (x := (Int32.ofInt 8)) rfl rfl cb_8 ?_
          refine h_cne (tg := 43) (pc' := 40) rfl rfl rfl hz88 ci_8 (fun c89 => ?_) (fun c89 => absurd c89 (by omega))
          refine h_aload_n (pc' := 44) rfl rfl rfl ?_
          refine h_getR (pc' := 47) rfl rfl rfl rfl rfl ?_
          refine h_bipush (pc' := 49) (x := (Int32.ofInt 35)) rfl rfl cb_35 ?_
          refine h_aload_n (pc' := 50) rfl rfl rfl ?_
          refine h_getR (pc' := 53) rfl rfl rfl rfl rfl ?_
          refine h_bipush (pc' := 55) (x := (Int32.ofInt 43)) rfl rfl cb_43 ?_
          refine h_iald (pc' := 56) (v := s0 99 43) rfl rfl rfl ci_43 (by omega) (by omega) es63.2.2.2.2.2.2.2.2.2.2.1 (fun z90 hz90 => ?_)
          have tz90 := ty_99_10 I0 43 (by omega)
          refine h_iadd (pc' := 57) rfl rfl ci_35 hz90 rfl (by omega) (by omega) (fun z91 hz91 => ?_)
          refine h_iload_n (pc' := 58) rfl rfl rfl ?_
          refine h_iast (pc' := 59) rfl rfl rfl rfl hz91 (by omega) (by omega) hz66 (h_fgt (E := fun s => s 64 1 = s0 64 1 ∧ s 98 11 = s0 98 11 ∧ s 64 4 = s0 64 4 ∧ s 98 16 = s0 98 16 ∧ s 63 2 = s0 63 2 ∧ s 10 8 = s0 10 8 ∧ s 98 1 = s0 98 1 ∧ s 10 9 = s0 10 9 ∧ s 98 2 = s0 98 2 ∧ s 10 10 = ((s0 10 10) + 1) ∧ s 99 43 = s0 99 43 ∧ s 13 2 = s0 13 2 ∧ s 99 18 = s0 99 18 ∧ s 16 2 = s0 16 2 ∧ s 99 25 = s0 99 25 ∧ s 62 0 = s0 62 0 ∧ s 110 0 = s0 110 0 ∧ s 62 1 = s0 62 1 ∧ s 110 1 = s0 110 1 ∧ s = h_up s63 99 (35 + (s0 99 43)) (s0 0 (b3 + 1))) _ (ip_99_9 Is63 (by omega) (by omega)) (Fs63.up (k_ipg (p := 0) rfl rfl (by omega))) ⟨es63.1, es63.2.1, es63.2.2.1, es63.2.2.2.1, es63.2.2.2.2.1, es63.2.2.2.2.2.1, es63.2.2.2.2.2.2.1, es63.2.2.2.2.2.2.2.1, es63.2.2.2.2.2.2.2.2.1, es63.2.2.2.2.2.2.2.2.2.1, h_up_n2 (by omega) es63.2.2.2.2.2.2.2.2.2.2.1, es63.2.2.2.2.2.2.2.2.2.2.2.1, h_up_n2 (by omega) es63.2.2.2.2.2.2.2.2.2.2.2.2.1, es63.2.2.2.2.2.2.2.2.2.2.2.2.2.1, h_up_n2 (by omega) es63.2.2.2.2.2.2.2.2.2.2.2.2.2.2.1, es63.2.2.2.2.2.2.2.2.2.2.2.2.2.2.2.1, es63.2.2.2.2.2.2.2.2.2.2.2.2.2.2.2.2.1, es63.2.2.2.2.2.2.2.2.2.2.2.2.2.2.2.2.2.1, es63.2.2.2.2.2.2.2.2.2.2.2.2.2.2.2.2.2.2.1, rfl⟩ (fun s92 Is92 Fs92 (es92 : s92 64 1 = s0 64 1 ∧ s92 98 11 = s0 98 11 ∧ s92 64 4 = s0 64 4 ∧ s92 98 16 = s0 98 16 ∧ s92 63 2 = s0 63 2 ∧ s92 10 8 = s0 10 8 ∧ s92 98 1 = s0 98 1 ∧ s92 10 9 = s0 10 9 ∧ s92 98 2 = s0 98 2 ∧ s92 10 10 = ((s0 10 10) + 1) ∧ s92 99 43 = s0 99 43 ∧ s92 13 2 = s0 13 2 ∧ s92 99 18 = s0 99 18 ∧ s92 16 2 = s0 16 2 ∧ s92 99 25 = s0 99 25 ∧ s92 62 0 = s0 62 0 ∧ s92 110 0 = s0 110 0 ∧ s92 62 1 = s0 62 1 ∧ s92 110 1 = s0 110 1 ∧ s92 = h_up s63 99 (35 + (s0 99 43)) (s0 0 (b3 + 1))) => ?_))
          clear es63
          have us92 := es92.2.2.2.2.2.2.2.2.2.2.2.2.2.2.2.2.2.2.2
          have Zs92 : ∀ i, s92 0 i = s0 0 i := fun i => (h_upo us92 rfl i).trans (Zs63 i)
          refine h_aload_n (pc' := 60) rfl rfl rfl ?_
          refine h_getR (pc' := 63) rfl rfl rfl rfl rfl ?_
          refine h_bipush (pc' := 65) (x := (Int32.ofInt 43)) rfl rfl cb_43 ?_
          refine h_dup2 (pc' := 66) rfl rfl rfl ?_
          refine h_iald (pc' := 67) (v := s0 99 43) rfl rfl rfl ci_43 (by omega) (by omega) es92.2.2.2.2.2.2.2.2.2.2.1 (fun z93 hz93 => ?_)
          have tz93 := ty_99_10 I0 43 (by omega)
          refine h_iconst (pc' := 68) (x := (Int32.ofInt 1)) rfl rfl rfl ?_
          refine h_iadd (pc' := 69) rfl rfl hz93 ci_1 rfl (by omega) (by omega) (fun z94 hz94 => ?_)
          refine h_iast (pc' := 70) rfl rfl rfl rfl ci_43 (by omega) (by omega) hz94 (h_fgt (E := fun s => s 64 1 = s0 64 1 ∧ s 98 11 = s0 98 11 ∧ s 64 4 = s0 64 4 ∧ s 98 16 = s0 98 16 ∧ s 63 2 = s0 63 2 ∧ s 10 8 = s0 10 8 ∧ s 98 1 = s0 98 1 ∧ s 10 9 = s0 10 9 ∧ s 98 2 = s0 98 2 ∧ s 10 10 = ((s0 10 10) + 1) ∧ s 99 43 = ((s0 99 43) + 1) ∧ s 13 2 = s0 13 2 ∧ s 99 18 = s0 99 18 ∧ s 16 2 = s0 16 2 ∧ s 99 25 = s0 99 25 ∧ s 62 0 = s0 62 0 ∧ s 110 0 = s0 110 0 ∧ s 62 1 = s0 62 1 ∧ s 110 1 = s0 110 1 ∧ s = h_up s92 99 43 ((s0 99 43) + 1)) _ (ip_99_10 Is92 (by omega) (by omega)) (Fs92.up (k_ipg (p := 0) rfl rfl (by omega))) ⟨es92.1, es92.2.1, es92.2.2.1, es92.2.2.2.1, es92.2.2.2.2.1, es92.2.2.2.2.2.1, es92.2.2.2.2.2.2.1, es92.2.2.2.2.2.2.2.1, es92.2.2.2.2.2.2.2.2.1, es92.2.2.2.2.2.2.2.2.2.1, rfl, es92.2.2.2.2.2.2.2.2.2.2.2.1, es92.2.2.2.2.2.2.2.2.2.2.2.2.1, es92.2.2.2.2.2.2.2.2.2.2.2.2.2.1, es92.2.2.2.2.2.2.2.2.2.2.2.2.2.2.1, es92.2.2.2.2.2.2.2.2.2.2.2.2.2.2.2.1, es92.2.2.2.2.2.2.2.2.2.2.2.2.2.2.2.2.1, es92.2.2.2.2.2.2.2.2.2.2.2.2.2.2.2.2.2.1, es92.2.2.2.2.2.2.2.2.2.2.2.2.2.2.2.2.2.2.1, rfl⟩ (fun s95 Is95 Fs95 (es95 : s95 64 1 = s0 64 1 ∧ s95 98 11 = s0 98 11 ∧ s95 64 4 = s0 64 4 ∧ s95 98 16 = s0 98 16 ∧ s95 63 2 = s0 63 2 ∧ s95 10 8 = s0 10 8 ∧ s95 98 1 = s0 98 1 ∧ s95 10 9 = s0 10 9 ∧ s95 98 2 = s0 98 2 ∧ s95 10 10 = ((s0 10 10) + 1) ∧ s95 99 43 = ((s0 99 43) + 1) ∧ s95 13 2 = s0 13 2 ∧ s95 99 18 = s0 99 18 ∧ s95 16 2 = s0 16 2 ∧ s95 99 25 = s0 99 25 ∧ s95 62 0 = s0 62 0 ∧ s95 110 0 = s0 110 0 ∧ s95 62 1 = s0 62 1 ∧ s95 110 1 = s0 110 1 ∧ s95 = h_up s92 99 43 ((s0 99 43) + 1)) => ?_))
          clear es92
          have us95 := es95.2.2.2.2.2.2.2.2.2.2.2.2.2.2.2.2.2.2.2
          have Zs95 : ∀ i, s95 0 i = s0 0 i := fun i => (h_upo us95 rfl i).trans (Zs92 i)
          refine h_aload_n (pc' := 71) rfl rfl rfl ?_
          refine h_getR (pc' := 74) rfl rfl rfl rfl rfl ?_
          refine h_bipush (pc' := 76) (x := (Int32.ofInt 43)) rfl rfl cb_43 ?_
          refine h_iald (pc' := 77) (v := ((s0 99 43) + 1)) rfl rfl rfl ci_43 (by omega) (by omega) es95.2.2.2.2.2.2.2.2.2.2.1 (fun z96 hz96 => ?_)
          refine h_iret rfl rfl (h_Kv ?_)
          refine h_pop (pc' := 700) rfl rfl rfl ?_
          refine h_goto (pc' := 1441) rfl rfl ?_
          exact kk _ Is95 (by first | exact d_tape.le j0 (Int.le_antisymm (by omega) (by omega)) (by omega) (fun j => (h_upo us95 rfl j).trans ((h_upo us92 rfl j).trans ((h_upo us63 rfl j).trans ((h_upo us60 rfl j))))) (fun j => (h_upo us95 rfl j).trans ((h_upo us92 rfl j).trans ((h_upo us63 rfl j).trans ((h_upo us60 rfl j))))) | (exfalso; omega)) (Int.le_antisymm (by omega) (by omega)) (c_R.act j2 I0 (by omega) (by omega) (by omega) (by omega) (Int.le_antisymm (by omega) (by omega)) (Int.le_antisymm (by omega) (by omega)) (Int.le_antisymm (by omega) (by omega)) (Int.le_antisymm (by omega) (by omega)) (fun j => (h_upo us95 rfl j).trans ((h_upo us92 rfl j).trans ((h_upo us63 rfl j).trans ((h_upi us60 j))))) (Int.le_antisymm (by omega) (by omega)) (fun j => (h_upi us95 j).trans (congrArg (fun z => if j = 43 then ((s0 99 43) + 1) else z) ((h_upi us92 j).trans (congrArg (fun z => if j = (35 + (s0 99 43)) then (s0 0 (b3 + 1)) else z) ((h_upo us63 rfl j).trans ((h_upo us60 rfl j))))))) (Int.le_antisymm (by omega) (by omega)) (Int.le_antisymm (by omega) (by omega)) (fun p j n0 n1 n2 => (h_upq us95 n2 j).trans ((h_upq us92 n2 j).trans ((h_upq us63 n0 j).trans ((h_upq us60 n1 j))))))
        · refine h_bipush (pc' := 48) (x := (Int32.ofInt (-3))) rfl rfl cb_m3 ?_
          refine h_iret rfl rfl (h_Kv ?_)
          refine h_pop (pc' := 690) rfl rfl rfl ?_
          refine h_aload_n (pc' := 691) rfl rfl rfl ?_
          refine h_aload_n (pc' := 692) rfl rfl rfl ?_
          refine h_iload_n (pc' := 693) rfl rfl rfl ?_
          refine h_iconst (pc' := 694) (x := (Int32.ofInt 1)) rfl rfl rfl ?_
          refine h_iadd (pc' := 695) rfl rfl hy3 ci_1 rfl (by omega) (by omega) (fun z97 hz97 => ?_)
          refine h_iald (pc' := 696) (v := s0 0 (b3 + 1)) rfl rfl rfl hz97 (by omega) (by omega) rfl (fun z98 hz98 => ?_)
          have tz98 := h_rgv hz98
          refine h_call (sp := false) (pc' := 699) (M := [(0, .ref 98), (1, .int z98)]) rfl rfl rfl rfl rfl rfl rfl rfl ?_
          refine h_iload_n (pc' := 1) rfl rfl rfl ?_
          refine h_zlt (tg := 26) (pc' := 4) rfl rfl rfl hz98 (fun c99 => absurd c99 (by omega)) (fun c99 => ?_)
          refine h_aload_n (pc' := 5) rfl rfl rfl ?_
          refine h_iload_n (pc' := 6) rfl rfl rfl ?_
          refine h_bipush (pc' := 8) (x := (Int32.ofInt 10)) rfl rfl cb_10 ?_
          refine h_idiv (pc' := 9) rfl rfl hz98 ci_10 (by omega) (by omega) (fun z100 hz100 => ?_)
          refine h_call (sp := false) (pc' := 12) (M := [(0, .ref 98), (1, .int z100)]) rfl rfl rfl rfl rfl rfl rfl rfl ?_
          refine h_iload_n (pc' := 1) rfl rfl rfl ?_
          refine h_i2l (pc' := 2) rfl rfl hz100 (fun z101 hz101 => ?_)
          refine h_lconst (pc' := 3) (x := (Int64.ofInt 0)) rfl rfl rfl ?_
          refine h_aload_n (pc' := 4) rfl rfl rfl ?_
          refine h_getI (pc' := 7) (v := s0 98 1) rfl rfl rfl rfl rfl rfl (fun z102 hz102 => ?_)
          have tz102 := tf_98_1 I0
          refine h_iconst (pc' := 8) (x := (Int32.ofInt 1)) rfl rfl rfl ?_
          refine h_isub (pc' := 9) rfl rfl hz102 ci_1 rfl (by omega) (by omega) (fun z103 hz103 => ?_)
          refine h_i2l (pc' := 10) rfl rfl hz103 (fun z104 hz104 => ?_)
          refine h_calls (pc' := 13) (M := [(0, .long z101), (2, .long (Int64.ofInt 0)), (4, .long z104)]) rfl rfl rfl rfl rfl rfl ?_
          refine h_lload_n (pc' := 1) rfl rfl rfl ?_
          refine h_lload_n (pc' := 2) rfl rfl rfl ?_
          refine h_lcmp (pc' := 3) rfl rfl hz101 cl_0 (fun z105 hz105 => ?_)
          refine h_zlt (tg := 17) (pc' := 6) rfl rfl rfl rfl (fun c106 => absurd c106 (by omega)) (fun c106 => ?_)
          replace c106 := (h_lcr hz105).2.1 c106
          clear hz105
          refine h_lload_n (pc' := 7) rfl rfl rfl ?_
          refine h_lload (pc' := 9) rfl rfl rfl ?_
          refine h_lcmp (pc' := 10) rfl rfl hz101 hz104 (fun z107 hz107 => ?_)
          refine h_zgt (tg := 17) (pc' := 13) rfl rfl rfl rfl (fun c108 => absurd c108 (by omega)) (fun c108 => ?_)
          replace c108 := (h_lcr hz107).2.2.1 c108
          clear hz107
          refine h_iconst (pc' := 14) (x := (Int32.ofInt 1)) rfl rfl rfl ?_
          refine h_goto (pc' := 18) rfl rfl ?_
          refine h_zret rfl rfl ci_1 (by omega) (h_Kv ?_)
          refine h_zret rfl rfl ci_1 (by omega) (h_Kv ?_)
          refine h_zeq (tg := 26) (pc' := 15) rfl rfl rfl ci_1 (fun c109 => absurd c109 (by omega)) (fun c109 => ?_)
          refine h_aload_n (pc' := 16) rfl rfl rfl ?_
          refine h_iload_n (pc' := 17) rfl rfl rfl ?_
          refine h_bipush (pc' := 19) (x := (Int32.ofInt 10)) rfl rfl cb_10 ?_
          refine h_irem (pc' := 20) rfl rfl hz98 ci_10 (by omega) (by omega) (fun z110 hz110 => ?_)
          refine h_call (sp := false) (pc' := 23) (M := [(0, .ref 98), (1, .int z110)]) rfl rfl rfl rfl rfl rfl rfl rfl ?_
          refine h_iload_n (pc' := 1) rfl rfl rfl ?_
          refine h_i2l (pc' := 2) rfl rfl hz110 (fun z111 hz111 => ?_)
          refine h_lconst (pc' := 3) (x := (Int64.ofInt 0)) rfl rfl rfl ?_
          refine h_aload_n (pc' := 4) rfl rfl rfl ?_
          refine h_getI (pc' := 7) (v := s0 98 2) rfl rfl rfl rfl rfl rfl (fun z112 hz112 => ?_)
          have tz112 := tf_98_2 I0
          refine h_iconst (pc' := 8) (x := (Int32.ofInt 1)) rfl rfl rfl ?_
          refine h_isub (pc' := 9) rfl rfl hz112 ci_1 rfl (by omega) (by omega) (fun z113 hz113 => ?_)
          refine h_i2l (pc' := 10) rfl rfl hz113 (fun z114 hz114 => ?_)
          refine h_calls (pc' := 13) (M := [(0, .long z111), (2, .long (Int64.ofInt 0)), (4, .long z114)]) rfl rfl rfl rfl rfl rfl ?_
          refine h_lload_n (pc' := 1) rfl rfl rfl ?_
          refine h_lload_n (pc' := 2) rfl rfl rfl ?_
          refine h_lcmp (pc' := 3) rfl rfl hz111 cl_0 (fun z115 hz115 => ?_)
          refine h_zlt (tg := 17) (pc' := 6) rfl rfl rfl rfl (fun c116 => absurd c116 (by omega)) (fun c116 => ?_)
          replace c116 := (h_lcr hz115).2.1 c116
          clear hz115
          refine h_lload_n (pc' := 7) rfl rfl rfl ?_
          refine h_lload (pc' := 9) rfl rfl rfl ?_
          refine h_lcmp (pc' := 10) rfl rfl hz111 hz114 (fun z117 hz117 => ?_)
          refine h_zgt (tg := 17) (pc' := 13) rfl rfl rfl rfl (fun c118 => absurd c118 (by omega)) (fun c118 => ?_)
          replace c118 := (h_lcr hz117).2.2.1 c118
          clear hz117
          refine h_iconst (pc' := 14) (x := (Int32.ofInt 1)) rfl rfl rfl ?_
          refine h_goto (pc' := 18) rfl rfl ?_
          refine h_zret rfl rfl ci_1 (by omega) (h_Kv ?_)
          refine h_zret rfl rfl ci_1 (by omega) (h_Kv ?_)
          refine h_zne (tg := 28) (pc' := 26) rfl rfl rfl ci_1 (fun c119 => ?_) (fun c119 => absurd c119 (by omega))
          refine h_aload_n (pc' := 29) rfl rfl rfl ?_
          refine h_getR (pc' := 32) rfl rfl rfl rfl rfl ?_
          refine h_bipush (pc' := 34) (x := (Int32.ofInt 43)) rfl rfl cb_43 ?_
          refine h_iald (pc' := 35) (v := s0 99 43) rfl rfl rfl ci_43 (by omega) (by omega) rfl (fun z120 hz120 => ?_)
          have tz120 := ty_99_10 I0 43 (by omega)
          refine h_bipush (pc' := 37) (x := (Int32.ofInt 8)) rfl rfl cb_8 ?_
          refine h_cne (tg := 43) (pc' := 40) rfl rfl rfl hz120 ci_8 (fun c121 => absurd (Int.le_antisymm (by omega) (by omega)) c121) (fun c121 => ?_)
          refine h_bipush (pc' := 42) (x := (Int32.ofInt (-3))) rfl rfl cb_m3 ?_
          refine h_iret rfl rfl (h_Kv ?_)
          refine h_pop (pc' := 700) rfl rfl rfl ?_
          refine h_goto (pc' := 1441) rfl rfl ?_
          exact kk _ I0 (by first | exact d_tape.le j0 (Int.le_antisymm (by omega) (by omega)) (by omega) (fun j => rfl) (fun j => rfl) | (exfalso; omega)) (Int.le_antisymm (by omega) (by omega)) j2
set_option maxHeartbeats 100000000 in
theorem g_case_703 {ns : Nat} (hns : ns ≤ 320) (s0 : h_S) (I0 : h_I s0) (j0 : d_tape s0 s0) (j1 : s0 64 4 = s0 98 16) (j2 : c_R false s0) (y3 : Int32) (b3 : Int) (hy3 : y3.toInt = b3) (hr : 0 ≤ b3 ∧ b3 + 5 ≤ ns) {Q : Option Value → h_S → Prop} (kk : ∀ τ, h_I τ → (d_tape τ τ) → (τ 64 4 = τ 98 16) → (c_R false τ) → h_T g_P (g_Y ns) 225 1441 [(0, .ref 0), (1, .ref 9), (2, .ref 98), (3, .int y3)] [] τ Q) : h_T g_P (g_Y ns) 225 703 [(0, .ref 0), (1, .ref 9), (2, .ref 98), (3, .int y3)] [] s0 Q := by
  have F0_ : h_F (fun _ _ => true) s0 s0 := h_F.rf
  have j0_ := j0.2
  have i0 := tf_64_1 I0
  have i1 := tf_98_11 I0
  have i2 := tf_64_4 I0
  have i3 := tf_98_16 I0
  have i4 := tf_63_2 I0
  have i5 := tf_10_8 I0
  have i6 := tf_98_1 I0
  have i7 := tf_10_9 I0
  have i8 := tf_98_2 I0
  have i9 := tf_10_10 I0
  have i11 := tf_13_2 I0
  have i13 := tf_16_2 I0
  have j2_ := j2.sz
  have j2i := j2.2.2.1
  have y43 := ty_99_10 I0 43 (by omega)
  have y18 := ty_99_3 I0 18 (by omega)
  have y25 := ty_99_5 I0 25 (by omega)
  have y62_0 := ty_62 I0 0
  have y62_1 := ty_62 I0 1
  have y110_0 := ty_110 I0 0
  have y110_1 := ty_110 I0 1
  refine h_aload_n (pc' := 704) rfl rfl rfl ?_
  refine h_aload_n (pc' := 705) rfl rfl rfl ?_
  refine h_iload_n (pc' := 706) rfl rfl rfl ?_
  refine h_iconst (pc' := 707) (x := (Int32.ofInt 1)) rfl rfl rfl ?_
  refine h_iadd (pc' := 708) rfl rfl hy3 ci_1 rfl (by omega) (by omega) (fun z1 hz1 => ?_)
  refine h_iald (pc' := 709) (v := s0 0 (b3 + 1)) rfl rfl rfl hz1 (by omega) (by omega) rfl (fun z2 hz2 => ?_)
  have tz2 := h_rgv hz2
  refine h_call (sp := false) (pc' := 712) (M := [(0, .ref 9), (1, .int z2)]) rfl rfl rfl rfl rfl rfl rfl rfl ?_
  refine h_iload_n (pc' := 1) rfl rfl rfl ?_
  refine h_zlt (tg := 15) (pc' := 4) rfl rfl rfl hz2 (fun c3 => ?_) (fun c3 => ?_)
  · refine h_iconst (pc' := 16) (x := (Int32.ofInt (-1))) rfl rfl rfl ?_
    refine h_iret rfl rfl (h_Kv ?_)
    refine h_pop (pc' := 713) rfl rfl rfl ?_
    refine h_aload_n (pc' := 714) rfl rfl rfl ?_
    refine h_aload_n (pc' := 715) rfl rfl rfl ?_
    refine h_iload_n (pc' := 716) rfl rfl rfl ?_
    refine h_iconst (pc' := 717) (x := (Int32.ofInt 1)) rfl rfl rfl ?_
    refine h_iadd (pc' := 718) rfl rfl hy3 ci_1 rfl (by omega) (by omega) (fun z4 hz4 => ?_)
    refine h_iald (pc' := 719) (v := s0 0 (b3 + 1)) rfl rfl rfl hz4 (by omega) (by omega) rfl (fun z5 hz5 => ?_)
    have tz5 := h_rgv hz5
    refine h_call (sp := false) (pc' := 722) (M := [(0, .ref 98), (1, .int z5)]) rfl rfl rfl rfl rfl rfl rfl rfl ?_
    refine h_aload_n (pc' := 1) rfl rfl rfl ?_
    refine h_iload_n (pc' := 2) rfl rfl rfl ?_
    refine h_i2l (pc' := 3) rfl rfl hz5 (fun z6 hz6 => ?_)
    refine h_lconst (pc' := 4) (x := (Int64.ofInt 0)) rfl rfl rfl ?_
    refine h_aload_n (pc' := 5) rfl rfl rfl ?_
    refine h_getR (pc' := 8) rfl rfl rfl rfl rfl ?_
    refine h_bipush (pc' := 10) (x := (Int32.ofInt 43)) rfl rfl cb_43 ?_
    refine h_iald (pc' := 11) (v := s0 99 43) rfl rfl rfl ci_43 (by omega) (by omega) rfl (fun z7 hz7 => ?_)
    have tz7 := ty_99_10 I0 43 (by omega)
    refine h_i2l (pc' := 12) rfl rfl hz7 (fun z8 hz8 => ?_)
    refine h_calls (pc' := 15) (M := [(0, .long z6), (2, .long (Int64.ofInt 0)), (4, .long z8)]) rfl rfl rfl rfl rfl rfl ?_
    refine h_lload_n (pc' := 1) rfl rfl rfl ?_
    refine h_lload_n (pc' := 2) rfl rfl rfl ?_
    refine h_lcmp (pc' := 3) rfl rfl hz6 cl_0 (fun z9 hz9 => ?_)
    refine h_zlt (tg := 17) (pc' := 6) rfl rfl rfl rfl (fun c10 => ?_) (fun c10 => absurd c10 (by omega))
    replace c10 := (h_lcr hz9).1 c10
    clear hz9
    refine h_iconst (pc' := 18) (x := (Int32.ofInt 0)) rfl rfl rfl ?_
    refine h_zret rfl rfl ci_0 (by omega) (h_Kv ?_)
    refine h_bipush (pc' := 17) (x := (Int32.ofInt 43)) rfl rfl cb_43 ?_
    refine h_iload_n (pc' := 18) rfl rfl rfl ?_
    refine h_iconst (pc' := 19) (x := (Int32.ofInt 0)) rfl rfl rfl ?_
    refine h_call (sp := false) (pc' := 22) (M := [(0, .ref 98), (1, .int (Int32.ofInt 0)), (2, .int (Int32.ofInt 43)), (3, .int z5), (4, .int (Int32.ofInt 0))]) rfl rfl rfl rfl rfl rfl rfl rfl ?_
    refine h_iload_n (pc' := 1) rfl rfl rfl ?_
    refine h_zne (tg := 6) (pc' := 4) rfl rfl rfl ci_0 (fun c11 => absurd (Int.le_antisymm (by omega) (by omega)) c11) (fun c11 => ?_)
    refine h_iconst (pc' := 5) (x := (Int32.ofInt (-1))) rfl rfl rfl ?_
    refine h_iret rfl rfl (h_Kv ?_)
    refine h_iret rfl rfl (h_Kv ?_)
    refine h_pop (pc' := 723) rfl rfl rfl ?_
    refine h_goto (pc' := 1441) rfl rfl ?_
    exact kk _ I0 (by first | exact d_tape.le j0 (Int.le_antisymm (by omega) (by omega)) (by omega) (fun j => rfl) (fun j => rfl) | (exfalso; omega)) (Int.le_antisymm (by omega) (by omega)) j2
  · refine h_iload_n (pc' := 5) rfl rfl rfl ?_
    refine h_aload_n (pc' := 6) rfl rfl rfl ?_
    refine h_getR (pc' := 9) rfl rfl rfl rfl rfl ?_
    refine h_getI (pc' := 12) (v := s0 10 10) rfl rfl rfl rfl rfl rfl (fun z12 hz12 => ?_)
    have tz12 := tf_10_10 I0
    refine h_cle (tg := 17) (pc' := 15) rfl rfl rfl hz2 hz12 (fun c13 => ?_) (fun c13 => ?_)
    · refine h_aload_n (pc' := 18) rfl rfl rfl ?_
      refine h_getR (pc' := 21) rfl rfl rfl rfl rfl ?_
      refine h_getI (pc' := 24) (v := s0 10 10) rfl rfl rfl rfl rfl rfl (fun z14 hz14 => ?_)
      have tz14 := tf_10_10 I0
      refine h_istore_n (pc' := 25) (M := [(2, .int z14), (0, .ref 9), (1, .int z2)]) rfl rfl rfl rfl ?_
      refine h_aload_n (pc' := 26) rfl rfl rfl ?_
      refine h_getR (pc' := 29) rfl rfl rfl rfl rfl ?_
      refine h_iload_n (pc' := 30) rfl rfl rfl ?_
      refine h_put (pc' := 33) rfl rfl rfl rfl rfl rfl hz2 rfl (h_fgt (E := fun s => s 64 1 = s0 64 1 ∧ s 98 11 = s0 98 11 ∧ s 64 4 = s0 64 4 ∧ s 98 16 = s0 98 16 ∧ s 63 2 = s0 63 2 ∧ s 10 8 = s0 10 8 ∧ s 98 1 = s0 98 1 ∧ s 10 9 = s0 10 9 ∧ s 98 2 = s0 98 2 ∧ s 10 10 = (s0 0 (b3 + 1)) ∧ s 99 43 = s0 99 43 ∧ s 13 2 = s0 13 2 ∧ s 99 18 = s0 99 18 ∧ s 16 2 = s0 16 2 ∧ s 99 25 = s0 99 25 ∧ s 62 0 = s0 62 0 ∧ s 110 0 = s0 110 0 ∧ s 62 1 = s0 62 1 ∧ s 110 1 = s0 110 1 ∧ s = h_up s0 10 10 (s0 0 (b3 + 1))) _ (if_10_10 I0 (by omega)) (F0_.up rfl) ⟨rfl, rfl, rfl, rfl, rfl, rfl, rfl, rfl, rfl, rfl, rfl, rfl, rfl, rfl, rfl, rfl, rfl, rfl, rfl, rfl⟩ (fun s15 Is15 Fs15 (es15 : s15 64 1 = s0 64 1 ∧ s15 98 11 = s0 98 11 ∧ s15 64 4 = s0 64 4 ∧ s15 98 16 = s0 98 16 ∧ s15 63 2 = s0 63 2 ∧ s15 10 8 = s0 10 8 ∧ s15 98 1 = s0 98 1 ∧ s15 10 9 = s0 10 9 ∧ s15 98 2 = s0 98 2 ∧ s15 10 10 = (s0 0 (b3 + 1)) ∧ s15 99 43 = s0 99 43 ∧ s15 13 2 = s0 13 2 ∧ s15 99 18 = s0 99 18 ∧ s15 16 2 = s0 16 2 ∧ s15 99 25 = s0 99 25 ∧ s15 62 0 = s0 62 0 ∧ s15 110 0 = s0 110 0 ∧ s15 62 1 = s0 62 1 ∧ s15 110 1 = s0 110 1 ∧ s15 = h_up s0 10 10 (s0 0 (b3 + 1))) => ?_))
      have us15 := es15.2.2.2.2.2.2.2.2.2.2.2.2.2.2.2.2.2.2.2
      have Zs15 : ∀ i, s15 0 i = s0 0 i := fun i => (h_upo us15 rfl i).trans rfl
      refine h_iload_n (pc' := 34) rfl rfl rfl ?_
      refine h_iret rfl rfl (h_Kv ?_)
      refine h_pop (pc' := 713) rfl rfl rfl ?_
      refine h_aload_n (pc' := 714) rfl rfl rfl ?_
      refine h_aload_n (pc' := 715) rfl rfl rfl ?_
      refine h_iload_n (pc' := 716) rfl rfl rfl ?_
      refine h_iconst (pc' := 717) (x := (Int32.ofInt 1)) rfl rfl rfl ?_
      refine h_iadd (pc' := 718) rfl rfl hy3 ci_1 rfl (by omega) (by omega) (fun z16 hz16 => ?_)
      refine h_iald (pc' := 719) (v := s0 0 (b3 + 1)) rfl rfl rfl hz16 (by omega) (by omega) (Zs15 _) (fun z17 hz17 => ?_)
      have tz17 := h_rgv hz17
      refine h_call (sp := false) (pc' := 722) (M := [(0, .ref 98), (1, .int z17)]) rfl rfl rfl rfl rfl rfl rfl rfl ?_
      refine h_aload_n (pc' := 1) rfl rfl rfl ?_
      refine h_iload_n (pc' := 2) rfl rfl rfl ?_
      refine h_i2l (pc' := 3) rfl rfl hz17 (fun z18 hz18 => ?_)
      refine h_lconst (pc' := 4) (x := (Int64.ofInt 0)) rfl rfl rfl ?_
      refine h_aload_n (pc' := 5) rfl rfl rfl ?_
      refine h_getR (pc' := 8) rfl rfl rfl rfl rfl ?_
      refine h_bipush (pc' := 10) (x := (Int32.ofInt 43)) rfl rfl cb_43 ?_
      refine h_iald (pc' := 11) (v := s0 99 43) rfl rfl rfl ci_43 (by omega) (by omega) es15.2.2.2.2.2.2.2.2.2.2.1 (fun z19 hz19 => ?_)
      have tz19 := ty_99_10 I0 43 (by omega)
      refine h_i2l (pc' := 12) rfl rfl hz19 (fun z20 hz20 => ?_)
      refine h_calls (pc' := 15) (M := [(0, .long z18), (2, .long (Int64.ofInt 0)), (4, .long z20)]) rfl rfl rfl rfl rfl rfl ?_
      refine h_lload_n (pc' := 1) rfl rfl rfl ?_
      refine h_lload_n (pc' := 2) rfl rfl rfl ?_
      refine h_lcmp (pc' := 3) rfl rfl hz18 cl_0 (fun z21 hz21 => ?_)
      refine h_zlt (tg := 17) (pc' := 6) rfl rfl rfl rfl (fun c22 => absurd c22 (by omega)) (fun c22 => ?_)
      replace c22 := (h_lcr hz21).2.1 c22
      clear hz21
      refine h_lload_n (pc' := 7) rfl rfl rfl ?_
      refine h_lload (pc' := 9) rfl rfl rfl ?_
      refine h_lcmp (pc' := 10) rfl rfl hz18 hz20 (fun z23 hz23 => ?_)
      refine h_zgt (tg := 17) (pc' := 13) rfl rfl rfl rfl (fun c24 => absurd c24 (by omega)) (fun c24 => ?_)
      replace c24 := (h_lcr hz23).2.2.1 c24
      clear hz23
      refine h_iconst (pc' := 14) (x := (Int32.ofInt 1)) rfl rfl rfl ?_
      refine h_goto (pc' := 18) rfl rfl ?_
      refine h_zret rfl rfl ci_1 (by omega) (h_Kv ?_)
      refine h_bipush (pc' := 17) (x := (Int32.ofInt 43)) rfl rfl cb_43 ?_
      refine h_iload_n (pc' := 18) rfl rfl rfl ?_
      refine h_iconst (pc' := 19) (x := (Int32.ofInt 0)) rfl rfl rfl ?_
      refine h_call (sp := false) (pc' := 22) (M := [(0, .ref 98), (1, .int (Int32.ofInt 1)), (2, .int (Int32.ofInt 43)), (3, .int z17), (4, .int (Int32.ofInt 0))]) rfl rfl rfl rfl rfl rfl rfl rfl ?_
      refine h_iload_n (pc' := 1) rfl rfl rfl ?_
      refine h_zne (tg := 6) (pc' := 4) rfl rfl rfl ci_1 (fun c25 => ?_) (fun c25 => absurd c25 (by omega))
      refine h_iload (pc' := 8) rfl rfl rfl ?_
      refine h_zne (tg := 20) (pc' := 11) rfl rfl rfl ci_0 (fun c26 => absurd (Int.le_antisymm (by omega) (by omega)) c26) (fun c26 => ?_)
      refine h_aload_n (pc' := 12) rfl rfl rfl ?_
      refine h_getR (pc' := 15) rfl rfl rfl rfl rfl ?_
      refine h_iload_n (pc' := 16) rfl rfl rfl ?_
      refine h_iald (pc' := 17) (v := s0 99 43) rfl rfl rfl ci_43 (by omega) (by omega) es15.2.2.2.2.2.2.2.2.2.2.1 (fun z27 hz27 => ?_)
      have tz27 := ty_99_10 I0 43 (by omega)
      refine h_goto (pc' := 29) rfl rfl ?_
      refine h_istore (pc' := 31) (M := [(5, .int z27), (0, .ref 98), (1, .int (Int32.ofInt 1)), (2, .int (Int32.ofInt 43)), (3, .int z17), (4, .int (Int32.ofInt 0))]) rfl rfl rfl rfl ?_
      refine h_aload_n (pc' := 32) rfl rfl rfl ?_
      refine h_getR (pc' := 35) rfl rfl rfl rfl rfl ?_
      refine h_iload_n (pc' := 36) rfl rfl rfl ?_
      refine h_iload (pc' := 38) rfl rfl rfl ?_
      refine h_zne (tg := 45) (pc' := 41) rfl rfl rfl ci_0 (fun c28 => absurd (Int.le_antisymm (by omega) (by omega)) c28) (fun c28 => ?_)
      refine h_iload_n (pc' := 42) rfl rfl rfl ?_
      refine h_goto (pc' := 58) rfl rfl ?_
      refine h_iast (pc' := 59) rfl rfl rfl rfl ci_43 (by omega) (by omega) hz17 (h_fgt (E := fun s => s 64 1 = s0 64 1 ∧ s 98 11 = s0 98 11 ∧ s 64 4 = s0 64 4 ∧ s 98 16 = s0 98 16 ∧ s 63 2 = s0 63 2 ∧ s 10 8 = s0 10 8 ∧ s 98 1 = s0 98 1 ∧ s 10 9 = s0 10 9 ∧ s 98 2 = s0 98 2 ∧ s 10 10 = (s0 0 (b3 + 1)) ∧ s 99 43 = (s0 0 (b3 + 1)) ∧ s 13 2 = s0 13 2 ∧ s 99 18 = s0 99 18 ∧ s 16 2 = s0 16 2 ∧ s 99 25 = s0 99 25 ∧ s 62 0 = s0 62 0 ∧ s 110 0 = s0 110 0 ∧ s 62 1 = s0 62 1 ∧ s 110 1 = s0 110 1 ∧ s = h_up s15 99 43 (s0 0 (b3 + 1))) _ (ip_99_10 Is15 (by omega) (by omega)) (Fs15.up (k_ipg (p := 0) rfl rfl (by omega))) ⟨es15.1, es15.2.1, es15.2.2.1, es15.2.2.2.1, es15.2.2.2.2.1, es15.2.2.2.2.2.1, es15.2.2.2.2.2.2.1, es15.2.2.2.2.2.2.2.1, es15.2.2.2.2.2.2.2.2.1, es15.2.2.2.2.2.2.2.2.2.1, rfl, es15.2.2.2.2.2.2.2.2.2.2.2.1, es15.2.2.2.2.2.2.2.2.2.2.2.2.1, es15.2.2.2.2.2.2.2.2.2.2.2.2.2.1, es15.2.2.2.2.2.2.2.2.2.2.2.2.2.2.1, es15.2.2.2.2.2.2.2.2.2.2.2.2.2.2.2.1, es15.2.2.2.2.2.2.2.2.2.2.2.2.2.2.2.2.1, es15.2.2.2.2.2.2.2.2.2.2.2.2.2.2.2.2.2.1, es15.2.2.2.2.2.2.2.2.2.2.2.2.2.2.2.2.2.2.1, rfl⟩ (fun s29 Is29 Fs29 (es29 : s29 64 1 = s0 64 1 ∧ s29 98 11 = s0 98 11 ∧ s29 64 4 = s0 64 4 ∧ s29 98 16 = s0 98 16 ∧ s29 63 2 = s0 63 2 ∧ s29 10 8 = s0 10 8 ∧ s29 98 1 = s0 98 1 ∧ s29 10 9 = s0 10 9 ∧ s29 98 2 = s0 98 2 ∧ s29 10 10 = (s0 0 (b3 + 1)) ∧ s29 99 43 = (s0 0 (b3 + 1)) ∧ s29 13 2 = s0 13 2 ∧ s29 99 18 = s0 99 18 ∧ s29 16 2 = s0 16 2 ∧ s29 99 25 = s0 99 25 ∧ s29 62 0 = s0 62 0 ∧ s29 110 0 = s0 110 0 ∧ s29 62 1 = s0 62 1 ∧ s29 110 1 = s0 110 1 ∧ s29 = h_up s15 99 43 (s0 0 (b3 + 1))) => ?_))
      clear es15
      have us29 := es29.2.2.2.2.2.2.2.2.2.2.2.2.2.2.2.2.2.2.2
      have Zs29 : ∀ i, s29 0 i = s0 0 i := fun i => (h_upo us29 rfl i).trans (Zs15 i)
      refine h_iload (pc' := 61) rfl rfl rfl ?_
      refine h_iret rfl rfl (h_Kv ?_)
      refine h_iret rfl rfl (h_Kv ?_)
      refine h_pop (pc' := 723) rfl rfl rfl ?_
      refine h_goto (pc' := 1441) rfl rfl ?_
      exact kk _ Is29 (by first | exact d_tape.le j0 (Int.le_antisymm (by omega) (by omega)) (by omega) (fun j => (h_upo us29 rfl j).trans ((h_upo us15 rfl j))) (fun j => (h_upo us29 rfl j).trans ((h_upo us15 rfl j))) | (exfalso; omega)) (Int.le_antisymm (by omega) (by omega)) (c_R.cut j2 I0 (n := (s0 0 (b3 + 1))) (by omega) (Int.le_antisymm (by omega) (by omega)) (Int.le_antisymm (by omega) (by omega))  (Int.le_antisymm (by omega) (by omega)) (fun j => (h_upi us29 j).trans (congrArg (fun z => if j = 43 then (s0 0 (b3 + 1)) else z) ((h_upo us15 rfl j)))) (Int.le_antisymm (by omega) (by omega)) (Int.le_antisymm (by omega) (by omega)) (fun p j n0 n1 => (h_upq us29 n1 j).trans ((h_upq us15 n0 j))))
    · refine h_iconst (pc' := 16) (x := (Int32.ofInt (-1))) rfl rfl rfl ?_
      refine h_iret rfl rfl (h_Kv ?_)
      refine h_pop (pc' := 713) rfl rfl rfl ?_
      refine h_aload_n (pc' := 714) rfl rfl rfl ?_
      refine h_aload_n (pc' := 715) rfl rfl rfl ?_
      refine h_iload_n (pc' := 716) rfl rfl rfl ?_
      refine h_iconst (pc' := 717) (x := (Int32.ofInt 1)) rfl rfl rfl ?_
      refine h_iadd (pc' := 718) rfl rfl hy3 ci_1 rfl (by omega) (by omega) (fun z30 hz30 => ?_)
      refine h_iald (pc' := 719) (v := s0 0 (b3 + 1)) rfl rfl rfl hz30 (by omega) (by omega) rfl (fun z31 hz31 => ?_)
      have tz31 := h_rgv hz31
      refine h_call (sp := false) (pc' := 722) (M := [(0, .ref 98), (1, .int z31)]) rfl rfl rfl rfl rfl rfl rfl rfl ?_
      refine h_aload_n (pc' := 1) rfl rfl rfl ?_
      refine h_iload_n (pc' := 2) rfl rfl rfl ?_
      refine h_i2l (pc' := 3) rfl rfl hz31 (fun z32 hz32 => ?_)
      refine h_lconst (pc' := 4) (x := (Int64.ofInt 0)) rfl rfl rfl ?_
      refine h_aload_n (pc' := 5) rfl rfl rfl ?_
      refine h_getR (pc' := 8) rfl rfl rfl rfl rfl ?_
      refine h_bipush (pc' := 10) (x := (Int32.ofInt 43)) rfl rfl cb_43 ?_
      refine h_iald (pc' := 11) (v := s0 99 43) rfl rfl rfl ci_43 (by omega) (by omega) rfl (fun z33 hz33 => ?_)
      have tz33 := ty_99_10 I0 43 (by omega)
      refine h_i2l (pc' := 12) rfl rfl hz33 (fun z34 hz34 => ?_)
      refine h_calls (pc' := 15) (M := [(0, .long z32), (2, .long (Int64.ofInt 0)), (4, .long z34)]) rfl rfl rfl rfl rfl rfl ?_
      refine h_lload_n (pc' := 1) rfl rfl rfl ?_
      refine h_lload_n (pc' := 2) rfl rfl rfl ?_
      refine h_lcmp (pc' := 3) rfl rfl hz32 cl_0 (fun z35 hz35 => ?_)
      refine h_zlt (tg := 17) (pc' := 6) rfl rfl rfl rfl (fun c36 => absurd c36 (by omega)) (fun c36 => ?_)
      replace c36 := (h_lcr hz35).2.1 c36
      clear hz35
      refine h_lload_n (pc' := 7) rfl rfl rfl ?_
      refine h_lload (pc' := 9) rfl rfl rfl ?_
      refine h_lcmp (pc' := 10) rfl rfl hz32 hz34 (fun z37 hz37 => ?_)
      refine h_zgt (tg := 17) (pc' := 13) rfl rfl rfl rfl (fun c38 => ?_) (fun c38 => absurd c38 (by omega))
      replace c38 := (h_lcr hz37).2.2.2.1 c38
      clear hz37
      refine h_iconst (pc' := 18) (x := (Int32.ofInt 0)) rfl rfl rfl ?_
      refine h_zret rfl rfl ci_0 (by omega) (h_Kv ?_)
      refine h_bipush (pc' := 17) (x := (Int32.ofInt 43)) rfl rfl cb_43 ?_
      refine h_iload_n (pc' := 18) rfl rfl rfl ?_
      refine h_iconst (pc' := 19) (x := (Int32.ofInt 0)) rfl rfl rfl ?_
      refine h_call (sp := false) (pc' := 22) (M := [(0, .ref 98), (1, .int (Int32.ofInt 0)), (2, .int (Int32.ofInt 43)), (3, .int z31), (4, .int (Int32.ofInt 0))]) rfl rfl rfl rfl rfl rfl rfl rfl ?_
      refine h_iload_n (pc' := 1) rfl rfl rfl ?_
      refine h_zne (tg := 6) (pc' := 4) rfl rfl rfl ci_0 (fun c39 => absurd (Int.le_antisymm (by omega) (by omega)) c39) (fun c39 => ?_)
      refine h_iconst (pc' := 5) (x := (Int32.ofInt (-1))) rfl rfl rfl ?_
      refine h_iret rfl rfl (h_Kv ?_)
      refine h_iret rfl rfl (h_Kv ?_)
      refine h_pop (pc' := 723) rfl rfl rfl ?_
      refine h_goto (pc' := 1441) rfl rfl ?_
      exact kk _ I0 (by first | exact d_tape.le j0 (Int.le_antisymm (by omega) (by omega)) (by omega) (fun j => rfl) (fun j => rfl) | (exfalso; omega)) (Int.le_antisymm (by omega) (by omega)) j2
set_option maxHeartbeats 100000000 in
theorem g_case_726 {ns : Nat} (hns : ns ≤ 320) (s0 : h_S) (I0 : h_I s0) (j0 : d_tape s0 s0) (j1 : s0 64 4 = s0 98 16) (j2 : c_R false s0) (y3 : Int32) (b3 : Int) (hy3 : y3.toInt = b3) (hr : 0 ≤ b3 ∧ b3 + 5 ≤ ns) {Q : Option Value → h_S → Prop} (kk : ∀ τ, h_I τ → (d_tape τ τ) → (τ 64 4 = τ 98 16) → (c_R false τ) → h_T g_P (g_Y ns) 225 1441 [(0, .ref 0), (1, .ref 9), (2, .ref 98), (3, .int y3)] [] τ Q) : h_T g_P (g_Y ns) 225 726 [(0, .ref 0), (1, .ref 9), (2, .ref 98), (3, .int y3)] [] s0 Q := by
  have F0_ : h_F (fun _ _ => true) s0 s0 := h_F.rf
  have j0_ := j0.2
  have i0 := tf_64_1 I0
  have i1 := tf_98_11 I0
  have i2 := tf_64_4 I0
  have i3 := tf_98_16 I0
  have i4 := tf_63_2 I0
  have i5 := tf_10_8 I0
  have i6 := tf_98_1 I0
  have i7 := tf_10_9 I0
  have i8 := tf_98_2 I0
  have i9 := tf_10_10 I0
  have i11 := tf_13_2 I0
  have i13 := tf_16_2 I0
  have j2_ := j2.sz
  have j2i := j2.2.2.1
  have y43 := ty_99_10 I0 43 (by omega)
  have y18 := ty_99_3 I0 18 (by omega)
  have y25 := ty_99_5 I0 25 (by omega)
  have y62_0 := ty_62 I0 0
  have y62_1 := ty_62 I0 1
  have y110_0 := ty_110 I0 0
  have y110_1 := ty_110 I0 1
  refine h_aload_n (pc' := 727) rfl rfl rfl ?_
  refine h_aload_n (pc' := 728) rfl rfl rfl ?_
  refine h_iload_n (pc' := 729) rfl rfl rfl ?_
  refine h_iconst (pc' := 730) (x := (Int32.ofInt 1)) rfl rfl rfl ?_
  refine h_iadd (pc' := 731) rfl rfl hy3 ci_1 rfl (by omega) (by omega) (fun z1 hz1 => ?_)
  refine h_iald (pc' := 732) (v := s0 0 (b3 + 1)) rfl rfl rfl hz1 (by omega) (by omega) rfl (fun z2 hz2 => ?_)
  have tz2 := h_rgv hz2
  refine h_aload_n (pc' := 733) rfl rfl rfl ?_
  refine h_iload_n (pc' := 734) rfl rfl rfl ?_
  refine h_iconst (pc' := 735) (x := (Int32.ofInt 2)) rfl rfl rfl ?_
  refine h_iadd (pc' := 736) rfl rfl hy3 ci_2 rfl (by omega) (by omega) (fun z3 hz3 => ?_)
  refine h_iald (pc' := 737) (v := s0 0 (b3 + 2)) rfl rfl rfl hz3 (by omega) (by omega) rfl (fun z4 hz4 => ?_)
  have tz4 := h_rgv hz4
  refine h_call (sp := false) (pc' := 740) (M := [(0, .ref 9), (1, .int z2), (2, .int z4)]) rfl rfl rfl rfl rfl rfl rfl rfl ?_
  refine w_100_9 _ I0 z2 _ hz2 z4 _ hz4 (fun r5 br5 hr5 s6 Is6 Gs6 tr5 => h_Kv ?_)
  have Zs6 : ∀ i, s6 0 i = s0 0 i := fun i => (Gs6 0 i rfl).trans rfl
  have Fs6 : h_F (fun _ _ => true) s6 s0 := fun _ _ h => by cases h
  have es6_0 : s6 64 1 = s0 64 1 := (Gs6 64 1 rfl).trans rfl
  have es6_1 : s6 98 11 = s0 98 11 := (Gs6 98 11 rfl).trans rfl
  have es6_2 : s6 64 4 = s0 64 4 := (Gs6 64 4 rfl).trans rfl
  have es6_3 : s6 98 16 = s0 98 16 := (Gs6 98 16 rfl).trans rfl
  have es6_4 : s6 63 2 = s0 63 2 := (Gs6 63 2 rfl).trans rfl
  have es6_5 : s6 10 8 = s0 10 8 := (Gs6 10 8 rfl).trans rfl
  have es6_6 : s6 98 1 = s0 98 1 := (Gs6 98 1 rfl).trans rfl
  have es6_7 : s6 10 9 = s0 10 9 := (Gs6 10 9 rfl).trans rfl
  have es6_8 : s6 98 2 = s0 98 2 := (Gs6 98 2 rfl).trans rfl
  have es6_9 : s6 10 10 = s0 10 10 := (Gs6 10 10 rfl).trans rfl
  have es6_10 : s6 99 43 = s0 99 43 := (Gs6 99 43 rfl).trans rfl
  have es6_11 : s6 13 2 = s0 13 2 := (Gs6 13 2 rfl).trans rfl
  have es6_12 : s6 99 18 = s0 99 18 := (Gs6 99 18 rfl).trans rfl
  have es6_13 : s6 16 2 = s0 16 2 := (Gs6 16 2 rfl).trans rfl
  have es6_14 : s6 99 25 = s0 99 25 := (Gs6 99 25 rfl).trans rfl
  have es6_15 : s6 62 0 = s0 62 0 := (Gs6 62 0 rfl).trans rfl
  have es6_16 : s6 110 0 = s0 110 0 := (Gs6 110 0 rfl).trans rfl
  have es6_17 : s6 62 1 = s0 62 1 := (Gs6 62 1 rfl).trans rfl
  have es6_18 : s6 110 1 = s0 110 1 := (Gs6 110 1 rfl).trans rfl
  refine h_pop (pc' := 741) rfl rfl rfl ?_
  refine h_aload_n (pc' := 742) rfl rfl rfl ?_
  refine h_aload_n (pc' := 743) rfl rfl rfl ?_
  refine h_iload_n (pc' := 744) rfl rfl rfl ?_
  refine h_iconst (pc' := 745) (x := (Int32.ofInt 1)) rfl rfl rfl ?_
  refine h_iadd (pc' := 746) rfl rfl hy3 ci_1 rfl (by omega) (by omega) (fun z7 hz7 => ?_)
  refine h_iald (pc' := 747) (v := s0 0 (b3 + 1)) rfl rfl rfl hz7 (by omega) (by omega) (Zs6 _) (fun z8 hz8 => ?_)
  have tz8 := h_rgv hz8
  refine h_aload_n (pc' := 748) rfl rfl rfl ?_
  refine h_iload_n (pc' := 749) rfl rfl rfl ?_
  refine h_iconst (pc' := 750) (x := (Int32.ofInt 2)) rfl rfl rfl ?_
  refine h_iadd (pc' := 751) rfl rfl hy3 ci_2 rfl (by omega) (by omega) (fun z9 hz9 => ?_)
  refine h_iald (pc' := 752) (v := s0 0 (b3 + 2)) rfl rfl rfl hz9 (by omega) (by omega) (Zs6 _) (fun z10 hz10 => ?_)
  have tz10 := h_rgv hz10
  refine h_call (sp := false) (pc' := 755) (M := [(0, .ref 98), (1, .int z8), (2, .int z10)]) rfl rfl rfl rfl rfl rfl rfl rfl ?_
  refine w_189_98 _ Is6 z8 _ hz8 z10 _ hz10 (fun r11 br11 hr11 s12 Is12 Gs12 tr11 => h_Kv ?_)
  have Zs12 : ∀ i, s12 0 i = s0 0 i := fun i => (Gs12 0 i rfl).trans (Zs6 i)
  have Fs12 : h_F (fun _ _ => true) s12 s0 := fun _ _ h => by cases h
  have es12_0 : s12 64 1 = s0 64 1 := (Gs12 64 1 rfl).trans es6_0
  have es12_1 : s12 98 11 = s0 98 11 := (Gs12 98 11 rfl).trans es6_1
  have es12_2 : s12 64 4 = s0 64 4 := (Gs12 64 4 rfl).trans es6_2
  have es12_3 : s12 98 16 = s0 98 16 := (Gs12 98 16 rfl).trans es6_3
  have es12_4 : s12 63 2 = s0 63 2 := (Gs12 63 2 rfl).trans es6_4
  have es12_5 : s12 10 8 = s0 10 8 := (Gs12 10 8 rfl).trans es6_5
  have es12_6 : s12 98 1 = s0 98 1 := (Gs12 98 1 rfl).trans es6_6
  have es12_7 : s12 10 9 = s0 10 9 := (Gs12 10 9 rfl).trans es6_7
  have es12_8 : s12 98 2 = s0 98 2 := (Gs12 98 2 rfl).trans es6_8
  have es12_9 : s12 10 10 = s0 10 10 := (Gs12 10 10 rfl).trans es6_9
  have es12_10 : s12 99 43 = s0 99 43 := (Gs12 99 43 rfl).trans es6_10
  have es12_11 : s12 13 2 = s0 13 2 := (Gs12 13 2 rfl).trans es6_11
  have es12_12 : s12 99 18 = s0 99 18 := (Gs12 99 18 rfl).trans es6_12
  have es12_13 : s12 16 2 = s0 16 2 := (Gs12 16 2 rfl).trans es6_13
  have es12_14 : s12 99 25 = s0 99 25 := (Gs12 99 25 rfl).trans es6_14
  have es12_15 : s12 62 0 = s0 62 0 := (Gs12 62 0 rfl).trans es6_15
  have es12_16 : s12 110 0 = s0 110 0 := (Gs12 110 0 rfl).trans es6_16
  have es12_17 : s12 62 1 = s0 62 1 := (Gs12 62 1 rfl).trans es6_17
  have es12_18 : s12 110 1 = s0 110 1 := (Gs12 110 1 rfl).trans es6_18
  clear es6_0 es6_1 es6_10 es6_11 es6_12 es6_13 es6_14 es6_15 es6_16 es6_17 es6_18 es6_2 es6_3 es6_4 es6_5 es6_6 es6_7 es6_8 es6_9
  refine h_pop (pc' := 756) rfl rfl rfl ?_
  refine h_goto (pc' := 1441) rfl rfl ?_
  exact kk _ Is12 (by first | exact d_tape.le j0 (Int.le_antisymm (by omega) (by omega)) (by omega) (fun j => (Gs12 65 j rfl).trans ((Gs6 65 j rfl))) (fun j => (Gs12 102 j rfl).trans ((Gs6 102 j rfl))) | (exfalso; omega)) (Int.le_antisymm (by omega) (by omega)) (c_R.fr (c_R.fr j2 I0 Gs6 rfl) Is6 Gs12 rfl)
set_option maxHeartbeats 100000000 in
theorem g_case_759 {ns : Nat} (hns : ns ≤ 320) (s0 : h_S) (I0 : h_I s0) (j0 : d_tape s0 s0) (j1 : s0 64 4 = s0 98 16) (j2 : c_R false s0) (y3 : Int32) (b3 : Int) (hy3 : y3.toInt = b3) (hr : 0 ≤ b3 ∧ b3 + 5 ≤ ns) {Q : Option Value → h_S → Prop} (kk : ∀ τ, h_I τ → (d_tape τ τ) → (τ 64 4 = τ 98 16) → (c_R false τ) → h_T g_P (g_Y ns) 225 1441 [(0, .ref 0), (1, .ref 9), (2, .ref 98), (3, .int y3)] [] τ Q) : h_T g_P (g_Y ns) 225 759 [(0, .ref 0), (1, .ref 9), (2, .ref 98), (3, .int y3)] [] s0 Q := by
  have F0_ : h_F (fun _ _ => true) s0 s0 := h_F.rf
  have j0_ := j0.2
  have i0 := tf_64_1 I0
  have i1 := tf_98_11 I0
  have i2 := tf_64_4 I0
  have i3 := tf_98_16 I0
  have i4 := tf_63_2 I0
  have i5 := tf_10_8 I0
  have i6 := tf_98_1 I0
  have i7 := tf_10_9 I0
  have i8 := tf_98_2 I0
  have i9 := tf_10_10 I0
  have i11 := tf_13_2 I0
  have i13 := tf_16_2 I0
  have j2_ := j2.sz
  have j2i := j2.2.2.1
  have y43 := ty_99_10 I0 43 (by omega)
  have y18 := ty_99_3 I0 18 (by omega)
  have y25 := ty_99_5 I0 25 (by omega)
  have y62_0 := ty_62 I0 0
  have y62_1 := ty_62 I0 1
  have y110_0 := ty_110 I0 0
  have y110_1 := ty_110 I0 1
  refine h_aload_n (pc' := 760) rfl rfl rfl ?_
  refine h_aload_n (pc' := 761) rfl rfl rfl ?_
  refine h_iload_n (pc' := 762) rfl rfl rfl ?_
  refine h_iconst (pc' := 763) (x := (Int32.ofInt 1)) rfl rfl rfl ?_
  refine h_iadd (pc' := 764) rfl rfl hy3 ci_1 rfl (by omega) (by omega) (fun z1 hz1 => ?_)
  refine h_iald (pc' := 765) (v := s0 0 (b3 + 1)) rfl rfl rfl hz1 (by omega) (by omega) rfl (fun z2 hz2 => ?_)
  have tz2 := h_rgv hz2
  refine h_call (sp := false) (pc' := 768) (M := [(0, .ref 9), (1, .int z2)]) rfl rfl rfl rfl rfl rfl rfl rfl ?_
  refine w_101_9 _ I0 z2 _ hz2 (fun r3 br3 hr3 s4 Is4 Gs4 => h_Kv ?_)
  have Zs4 : ∀ i, s4 0 i = s0 0 i := fun i => (Gs4 0 i rfl).trans rfl
  have Fs4 : h_F (fun _ _ => true) s4 s0 := fun _ _ h => by cases h
  have es4_0 : s4 64 1 = s0 64 1 := (Gs4 64 1 rfl).trans rfl
  have es4_1 : s4 98 11 = s0 98 11 := (Gs4 98 11 rfl).trans rfl
  have es4_2 : s4 64 4 = s0 64 4 := (Gs4 64 4 rfl).trans rfl
  have es4_3 : s4 98 16 = s0 98 16 := (Gs4 98 16 rfl).trans rfl
  have es4_4 : s4 63 2 = s0 63 2 := (Gs4 63 2 rfl).trans rfl
  have es4_5 : s4 10 8 = s0 10 8 := (Gs4 10 8 rfl).trans rfl
  have es4_6 : s4 98 1 = s0 98 1 := (Gs4 98 1 rfl).trans rfl
  have es4_7 : s4 10 9 = s0 10 9 := (Gs4 10 9 rfl).trans rfl
  have es4_8 : s4 98 2 = s0 98 2 := (Gs4 98 2 rfl).trans rfl
  have es4_9 : s4 10 10 = s0 10 10 := (Gs4 10 10 rfl).trans rfl
  have es4_10 : s4 99 43 = s0 99 43 := (Gs4 99 43 rfl).trans rfl
  have es4_11 : s4 13 2 = s0 13 2 := (Gs4 13 2 rfl).trans rfl
  have es4_12 : s4 99 18 = s0 99 18 := (Gs4 99 18 rfl).trans rfl
  have es4_13 : s4 16 2 = s0 16 2 := (Gs4 16 2 rfl).trans rfl
  have es4_14 : s4 99 25 = s0 99 25 := (Gs4 99 25 rfl).trans rfl
  have es4_15 : s4 62 0 = s0 62 0 := (Gs4 62 0 rfl).trans rfl
  have es4_16 : s4 110 0 = s0 110 0 := (Gs4 110 0 rfl).trans rfl
  have es4_17 : s4 62 1 = s0 62 1 := (Gs4 62 1 rfl).trans rfl
  have es4_18 : s4 110 1 = s0 110 1 := (Gs4 110 1 rfl).trans rfl
  refine h_pop (pc' := 769) rfl rfl rfl ?_
  refine h_aload_n (pc' := 770) rfl rfl rfl ?_
  refine h_aload_n (pc' := 771) rfl rfl rfl ?_
  refine h_iload_n (pc' := 772) rfl rfl rfl ?_
  refine h_iconst (pc' := 773) (x := (Int32.ofInt 1)) rfl rfl rfl ?_
  refine h_iadd (pc' := 774) rfl rfl hy3 ci_1 rfl (by omega) (by omega) (fun z5 hz5 => ?_)
  refine h_iald (pc' := 775) (v := s0 0 (b3 + 1)) rfl rfl rfl hz5 (by omega) (by omega) (Zs4 _) (fun z6 hz6 => ?_)
  have tz6 := h_rgv hz6
  refine h_call (sp := false) (pc' := 778) (M := [(0, .ref 98), (1, .int z6)]) rfl rfl rfl rfl rfl rfl rfl rfl ?_
  refine w_194_98 _ Is4 z6 _ hz6 (fun r7 br7 hr7 s8 Is8 Gs8 => h_Kv ?_)
  have Zs8 : ∀ i, s8 0 i = s0 0 i := fun i => (Gs8 0 i rfl).trans (Zs4 i)
  have Fs8 : h_F (fun _ _ => true) s8 s0 := fun _ _ h => by cases h
  have es8_0 : s8 64 1 = s0 64 1 := (Gs8 64 1 rfl).trans es4_0
  have es8_1 : s8 98 11 = s0 98 11 := (Gs8 98 11 rfl).trans es4_1
  have es8_2 : s8 64 4 = s0 64 4 := (Gs8 64 4 rfl).trans es4_2
  have es8_3 : s8 98 16 = s0 98 16 := (Gs8 98 16 rfl).trans es4_3
  have es8_4 : s8 63 2 = s0 63 2 := (Gs8 63 2 rfl).trans es4_4
  have es8_5 : s8 10 8 = s0 10 8 := (Gs8 10 8 rfl).trans es4_5
  have es8_6 : s8 98 1 = s0 98 1 := (Gs8 98 1 rfl).trans es4_6
  have es8_7 : s8 10 9 = s0 10 9 := (Gs8 10 9 rfl).trans es4_7
  have es8_8 : s8 98 2 = s0 98 2 := (Gs8 98 2 rfl).trans es4_8
  have es8_9 : s8 10 10 = s0 10 10 := (Gs8 10 10 rfl).trans es4_9
  have es8_10 : s8 99 43 = s0 99 43 := (Gs8 99 43 rfl).trans es4_10
  have es8_11 : s8 13 2 = s0 13 2 := (Gs8 13 2 rfl).trans es4_11
  have es8_12 : s8 99 18 = s0 99 18 := (Gs8 99 18 rfl).trans es4_12
  have es8_13 : s8 16 2 = s0 16 2 := (Gs8 16 2 rfl).trans es4_13
  have es8_14 : s8 99 25 = s0 99 25 := (Gs8 99 25 rfl).trans es4_14
  have es8_15 : s8 62 0 = s0 62 0 := (Gs8 62 0 rfl).trans es4_15
  have es8_16 : s8 110 0 = s0 110 0 := (Gs8 110 0 rfl).trans es4_16
  have es8_17 : s8 62 1 = s0 62 1 := (Gs8 62 1 rfl).trans es4_17
  have es8_18 : s8 110 1 = s0 110 1 := (Gs8 110 1 rfl).trans es4_18
  clear es4_0 es4_1 es4_10 es4_11 es4_12 es4_13 es4_14 es4_15 es4_16 es4_17 es4_18 es4_2 es4_3 es4_4 es4_5 es4_6 es4_7 es4_8 es4_9
  refine h_pop (pc' := 779) rfl rfl rfl ?_
  refine h_goto (pc' := 1441) rfl rfl ?_
  exact kk _ Is8 (by first | exact d_tape.le j0 (Int.le_antisymm (by omega) (by omega)) (by omega) (fun j => (Gs8 65 j rfl).trans ((Gs4 65 j rfl))) (fun j => (Gs8 102 j rfl).trans ((Gs4 102 j rfl))) | (exfalso; omega)) (Int.le_antisymm (by omega) (by omega)) (c_R.fr (c_R.fr j2 I0 Gs4 rfl) Is4 Gs8 rfl)
set_option maxHeartbeats 100000000 in
theorem g_case_782 {ns : Nat} (hns : ns ≤ 320) (s0 : h_S) (I0 : h_I s0) (j0 : d_tape s0 s0) (j1 : s0 64 4 = s0 98 16) (j2 : c_R false s0) (y3 : Int32) (b3 : Int) (hy3 : y3.toInt = b3) (hr : 0 ≤ b3 ∧ b3 + 5 ≤ ns) {Q : Option Value → h_S → Prop} (kk : ∀ τ, h_I τ → (d_tape τ τ) → (τ 64 4 = τ 98 16) → (c_R false τ) → h_T g_P (g_Y ns) 225 1441 [(0, .ref 0), (1, .ref 9), (2, .ref 98), (3, .int y3)] [] τ Q) : h_T g_P (g_Y ns) 225 782 [(0, .ref 0), (1, .ref 9), (2, .ref 98), (3, .int y3)] [] s0 Q := by
  have F0_ : h_F (fun _ _ => true) s0 s0 := h_F.rf
  have j0_ := j0.2
  have i0 := tf_64_1 I0
  have i1 := tf_98_11 I0
  have i2 := tf_64_4 I0
  have i3 := tf_98_16 I0
  have i4 := tf_63_2 I0
  have i5 := tf_10_8 I0
  have i6 := tf_98_1 I0
  have i7 := tf_10_9 I0
  have i8 := tf_98_2 I0
  have i9 := tf_10_10 I0
  have i11 := tf_13_2 I0
  have i13 := tf_16_2 I0
  have j2_ := j2.sz
  have j2i := j2.2.2.1
  have y43 := ty_99_10 I0 43 (by omega)
  have y18 := ty_99_3 I0 18 (by omega)
  have y25 := ty_99_5 I0 25 (by omega)
  have y62_0 := ty_62 I0 0
  have y62_1 := ty_62 I0 1
  have y110_0 := ty_110 I0 0
  have y110_1 := ty_110 I0 1
  refine h_aload_n (pc' := 783) rfl rfl rfl ?_
  refine h_aload_n (pc' := 784) rfl rfl rfl ?_
  refine h_iload_n (pc' := 785) rfl rfl rfl ?_
  refine h_iconst (pc' := 786) (x := (Int32.ofInt 1)) rfl rfl rfl ?_
  refine h_iadd (pc' := 787) rfl rfl hy3 ci_1 rfl (by omega) (by omega) (fun z1 hz1 => ?_)
  refine h_iald (pc' := 788) (v := s0 0 (b3 + 1)) rfl rfl rfl hz1 (by omega) (by omega) rfl (fun z2 hz2 => ?_)
  have tz2 := h_rgv hz2
  refine h_call (sp := false) (pc' := 791) (M := [(0, .ref 9), (1, .int z2)]) rfl rfl rfl rfl rfl rfl rfl rfl ?_
  refine w_102_9 _ I0 z2 _ hz2 (fun r3 br3 hr3 s4 Is4 Gs4 tr3 => h_Kv ?_)
  have Zs4 : ∀ i, s4 0 i = s0 0 i := fun i => (Gs4 0 i rfl).trans rfl
  have Fs4 : h_F (fun _ _ => true) s4 s0 := fun _ _ h => by cases h
  have es4_0 : s4 64 1 = s0 64 1 := (Gs4 64 1 rfl).trans rfl
  have es4_1 : s4 98 11 = s0 98 11 := (Gs4 98 11 rfl).trans rfl
  have es4_2 : s4 64 4 = s0 64 4 := (Gs4 64 4 rfl).trans rfl
  have es4_3 : s4 98 16 = s0 98 16 := (Gs4 98 16 rfl).trans rfl
  have es4_4 : s4 63 2 = s0 63 2 := (Gs4 63 2 rfl).trans rfl
  have es4_5 : s4 10 8 = s0 10 8 := (Gs4 10 8 rfl).trans rfl
  have es4_6 : s4 98 1 = s0 98 1 := (Gs4 98 1 rfl).trans rfl
  have es4_7 : s4 10 9 = s0 10 9 := (Gs4 10 9 rfl).trans rfl
  have es4_8 : s4 98 2 = s0 98 2 := (Gs4 98 2 rfl).trans rfl
  have es4_9 : s4 10 10 = s0 10 10 := (Gs4 10 10 rfl).trans rfl
  have es4_10 : s4 99 43 = s0 99 43 := (Gs4 99 43 rfl).trans rfl
  have es4_11 : s4 13 2 = s0 13 2 := (Gs4 13 2 rfl).trans rfl
  have es4_12 : s4 99 18 = s0 99 18 := (Gs4 99 18 rfl).trans rfl
  have es4_13 : s4 16 2 = s0 16 2 := (Gs4 16 2 rfl).trans rfl
  have es4_14 : s4 99 25 = s0 99 25 := (Gs4 99 25 rfl).trans rfl
  have es4_15 : s4 62 0 = s0 62 0 := (Gs4 62 0 rfl).trans rfl
  have es4_16 : s4 110 0 = s0 110 0 := (Gs4 110 0 rfl).trans rfl
  have es4_17 : s4 62 1 = s0 62 1 := (Gs4 62 1 rfl).trans rfl
  have es4_18 : s4 110 1 = s0 110 1 := (Gs4 110 1 rfl).trans rfl
  refine h_pop (pc' := 792) rfl rfl rfl ?_
  refine h_aload_n (pc' := 793) rfl rfl rfl ?_
  refine h_aload_n (pc' := 794) rfl rfl rfl ?_
  refine h_iload_n (pc' := 795) rfl rfl rfl ?_
  refine h_iconst (pc' := 796) (x := (Int32.ofInt 1)) rfl rfl rfl ?_
  refine h_iadd (pc' := 797) rfl rfl hy3 ci_1 rfl (by omega) (by omega) (fun z5 hz5 => ?_)
  refine h_iald (pc' := 798) (v := s0 0 (b3 + 1)) rfl rfl rfl hz5 (by omega) (by omega) (Zs4 _) (fun z6 hz6 => ?_)
  have tz6 := h_rgv hz6
  refine h_call (sp := false) (pc' := 801) (M := [(0, .ref 98), (1, .int z6)]) rfl rfl rfl rfl rfl rfl rfl rfl ?_
  refine w_195_98 _ Is4 z6 _ hz6 (fun r7 br7 hr7 s8 Is8 Gs8 tr7 => h_Kv ?_)
  have Zs8 : ∀ i, s8 0 i = s0 0 i := fun i => (Gs8 0 i rfl).trans (Zs4 i)
  have Fs8 : h_F (fun _ _ => true) s8 s0 := fun _ _ h => by cases h
  have es8_0 : s8 64 1 = s0 64 1 := (Gs8 64 1 rfl).trans es4_0
  have es8_1 : s8 98 11 = s0 98 11 := (Gs8 98 11 rfl).trans es4_1
  have es8_2 : s8 64 4 = s0 64 4 := (Gs8 64 4 rfl).trans es4_2
  have es8_3 : s8 98 16 = s0 98 16 := (Gs8 98 16 rfl).trans es4_3
  have es8_4 : s8 63 2 = s0 63 2 := (Gs8 63 2 rfl).trans es4_4
  have es8_5 : s8 10 8 = s0 10 8 := (Gs8 10 8 rfl).trans es4_5
  have es8_6 : s8 98 1 = s0 98 1 := (Gs8 98 1 rfl).trans es4_6
  have es8_7 : s8 10 9 = s0 10 9 := (Gs8 10 9 rfl).trans es4_7
  have es8_8 : s8 98 2 = s0 98 2 := (Gs8 98 2 rfl).trans es4_8
  have es8_9 : s8 10 10 = s0 10 10 := (Gs8 10 10 rfl).trans es4_9
  have es8_10 : s8 99 43 = s0 99 43 := (Gs8 99 43 rfl).trans es4_10
  have es8_11 : s8 13 2 = s0 13 2 := (Gs8 13 2 rfl).trans es4_11
  have es8_12 : s8 99 18 = s0 99 18 := (Gs8 99 18 rfl).trans es4_12
  have es8_13 : s8 16 2 = s0 16 2 := (Gs8 16 2 rfl).trans es4_13
  have es8_14 : s8 99 25 = s0 99 25 := (Gs8 99 25 rfl).trans es4_14
  have es8_15 : s8 62 0 = s0 62 0 := (Gs8 62 0 rfl).trans es4_15
  have es8_16 : s8 110 0 = s0 110 0 := (Gs8 110 0 rfl).trans es4_16
  have es8_17 : s8 62 1 = s0 62 1 := (Gs8 62 1 rfl).trans es4_17
  have es8_18 : s8 110 1 = s0 110 1 := (Gs8 110 1 rfl).trans es4_18
  clear es4_0 es4_1 es4_10 es4_11 es4_12 es4_13 es4_14 es4_15 es4_16 es4_17 es4_18 es4_2 es4_3 es4_4 es4_5 es4_6 es4_7 es4_8 es4_9
  refine h_pop (pc' := 802) rfl rfl rfl ?_
  refine h_goto (pc' := 1441) rfl rfl ?_
  exact kk _ Is8 (by first | exact d_tape.le j0 (Int.le_antisymm (by omega) (by omega)) (by omega) (fun j => (Gs8 65 j rfl).trans ((Gs4 65 j rfl))) (fun j => (Gs8 102 j rfl).trans ((Gs4 102 j rfl))) | (exfalso; omega)) (Int.le_antisymm (by omega) (by omega)) (c_R.fr (c_R.fr j2 I0 Gs4 rfl) Is4 Gs8 rfl)
set_option maxHeartbeats 100000000 in
theorem g_case_805 {ns : Nat} (hns : ns ≤ 320) (s0 : h_S) (I0 : h_I s0) (j0 : d_tape s0 s0) (j1 : s0 64 4 = s0 98 16) (j2 : c_R false s0) (y3 : Int32) (b3 : Int) (hy3 : y3.toInt = b3) (hr : 0 ≤ b3 ∧ b3 + 5 ≤ ns) {Q : Option Value → h_S → Prop} (kk : ∀ τ, h_I τ → (d_tape τ τ) → (τ 64 4 = τ 98 16) → (c_R false τ) → h_T g_P (g_Y ns) 225 1441 [(0, .ref 0), (1, .ref 9), (2, .ref 98), (3, .int y3)] [] τ Q) : h_T g_P (g_Y ns) 225 805 [(0, .ref 0), (1, .ref 9), (2, .ref 98), (3, .int y3)] [] s0 Q := by
  have F0_ : h_F (fun _ _ => true) s0 s0 := h_F.rf
  have j0_ := j0.2
  have i0 := tf_64_1 I0
  have i1 := tf_98_11 I0
  have i2 := tf_64_4 I0
  have i3 := tf_98_16 I0
  have i4 := tf_63_2 I0
  have i5 := tf_10_8 I0
  have i6 := tf_98_1 I0
  have i7 := tf_10_9 I0
  have i8 := tf_98_2 I0
  have i9 := tf_10_10 I0
  have i11 := tf_13_2 I0
  have i13 := tf_16_2 I0
  have j2_ := j2.sz
  have j2i := j2.2.2.1
  have y43 := ty_99_10 I0 43 (by omega)
  have y18 := ty_99_3 I0 18 (by omega)
  have y25 := ty_99_5 I0 25 (by omega)
  have y62_0 := ty_62 I0 0
  have y62_1 := ty_62 I0 1
  have y110_0 := ty_110 I0 0
  have y110_1 := ty_110 I0 1
  refine h_aload_n (pc' := 806) rfl rfl rfl ?_
  refine h_aload_n (pc' := 807) rfl rfl rfl ?_
  refine h_iload_n (pc' := 808) rfl rfl rfl ?_
  refine h_iconst (pc' := 809) (x := (Int32.ofInt 1)) rfl rfl rfl ?_
  refine h_iadd (pc' := 810) rfl rfl hy3 ci_1 rfl (by omega) (by omega) (fun z1 hz1 => ?_)
  refine h_iald (pc' := 811) (v := s0 0 (b3 + 1)) rfl rfl rfl hz1 (by omega) (by omega) rfl (fun z2 hz2 => ?_)
  have tz2 := h_rgv hz2
  refine h_aload_n (pc' := 812) rfl rfl rfl ?_
  refine h_iload_n (pc' := 813) rfl rfl rfl ?_
  refine h_iconst (pc' := 814) (x := (Int32.ofInt 2)) rfl rfl rfl ?_
  refine h_iadd (pc' := 815) rfl rfl hy3 ci_2 rfl (by omega) (by omega) (fun z3 hz3 => ?_)
  refine h_iald (pc' := 816) (v := s0 0 (b3 + 2)) rfl rfl rfl hz3 (by omega) (by omega) rfl (fun z4 hz4 => ?_)
  have tz4 := h_rgv hz4
  refine h_call (sp := false) (pc' := 819) (M := [(0, .ref 9), (1, .int z2), (2, .int z4)]) rfl rfl rfl rfl rfl rfl rfl rfl ?_
  refine w_103_9 _ I0 z2 _ hz2 z4 _ hz4 (fun r5 br5 hr5 s6 Is6 Gs6 => h_Kv ?_)
  have Zs6 : ∀ i, s6 0 i = s0 0 i := fun i => (Gs6 0 i rfl).trans rfl
  have Fs6 : h_F (fun _ _ => true) s6 s0 := fun _ _ h => by cases h
  have es6_0 : s6 64 1 = s0 64 1 := (Gs6 64 1 rfl).trans rfl
  have es6_1 : s6 98 11 = s0 98 11 := (Gs6 98 11 rfl).trans rfl
  have es6_2 : s6 64 4 = s0 64 4 := (Gs6 64 4 rfl).trans rfl
  have es6_3 : s6 98 16 = s0 98 16 := (Gs6 98 16 rfl).trans rfl
  have es6_4 : s6 63 2 = s0 63 2 := (Gs6 63 2 rfl).trans rfl
  have es6_5 : s6 10 8 = s0 10 8 := (Gs6 10 8 rfl).trans rfl
  have es6_6 : s6 98 1 = s0 98 1 := (Gs6 98 1 rfl).trans rfl
  have es6_7 : s6 10 9 = s0 10 9 := (Gs6 10 9 rfl).trans rfl
  have es6_8 : s6 98 2 = s0 98 2 := (Gs6 98 2 rfl).trans rfl
  have es6_9 : s6 10 10 = s0 10 10 := (Gs6 10 10 rfl).trans rfl
  have es6_10 : s6 99 43 = s0 99 43 := (Gs6 99 43 rfl).trans rfl
  have es6_11 : s6 13 2 = s0 13 2 := (Gs6 13 2 rfl).trans rfl
  have es6_12 : s6 99 18 = s0 99 18 := (Gs6 99 18 rfl).trans rfl
  have es6_13 : s6 16 2 = s0 16 2 := (Gs6 16 2 rfl).trans rfl
  have es6_14 : s6 99 25 = s0 99 25 := (Gs6 99 25 rfl).trans rfl
  have es6_15 : s6 62 0 = s0 62 0 := (Gs6 62 0 rfl).trans rfl
  have es6_16 : s6 110 0 = s0 110 0 := (Gs6 110 0 rfl).trans rfl
  have es6_17 : s6 62 1 = s0 62 1 := (Gs6 62 1 rfl).trans rfl
  have es6_18 : s6 110 1 = s0 110 1 := (Gs6 110 1 rfl).trans rfl
  refine h_pop (pc' := 820) rfl rfl rfl ?_
  refine h_aload_n (pc' := 821) rfl rfl rfl ?_
  refine h_aload_n (pc' := 822) rfl rfl rfl ?_
  refine h_iload_n (pc' := 823) rfl rfl rfl ?_
  refine h_iconst (pc' := 824) (x := (Int32.ofInt 1)) rfl rfl rfl ?_
  refine h_iadd (pc' := 825) rfl rfl hy3 ci_1 rfl (by omega) (by omega) (fun z7 hz7 => ?_)
  refine h_iald (pc' := 826) (v := s0 0 (b3 + 1)) rfl rfl rfl hz7 (by omega) (by omega) (Zs6 _) (fun z8 hz8 => ?_)
  have tz8 := h_rgv hz8
  refine h_aload_n (pc' := 827) rfl rfl rfl ?_
  refine h_iload_n (pc' := 828) rfl rfl rfl ?_
  refine h_iconst (pc' := 829) (x := (Int32.ofInt 2)) rfl rfl rfl ?_
  refine h_iadd (pc' := 830) rfl rfl hy3 ci_2 rfl (by omega) (by omega) (fun z9 hz9 => ?_)
  refine h_iald (pc' := 831) (v := s0 0 (b3 + 2)) rfl rfl rfl hz9 (by omega) (by omega) (Zs6 _) (fun z10 hz10 => ?_)
  have tz10 := h_rgv hz10
  refine h_call (sp := false) (pc' := 834) (M := [(0, .ref 98), (1, .int z8), (2, .int z10)]) rfl rfl rfl rfl rfl rfl rfl rfl ?_
  refine w_199_98 _ Is6 z8 _ hz8 z10 _ hz10 (fun r11 br11 hr11 s12 Is12 Gs12 => h_Kv ?_)
  have Zs12 : ∀ i, s12 0 i = s0 0 i := fun i => (Gs12 0 i rfl).trans (Zs6 i)
  have Fs12 : h_F (fun _ _ => true) s12 s0 := fun _ _ h => by cases h
  have es12_0 : s12 64 1 = s0 64 1 := (Gs12 64 1 rfl).trans es6_0
  have es12_1 : s12 98 11 = s0 98 11 := (Gs12 98 11 rfl).trans es6_1
  have es12_2 : s12 64 4 = s0 64 4 := (Gs12 64 4 rfl).trans es6_2
  have es12_3 : s12 98 16 = s0 98 16 := (Gs12 98 16 rfl).trans es6_3
  have es12_4 : s12 63 2 = s0 63 2 := (Gs12 63 2 rfl).trans es6_4
  have es12_5 : s12 10 8 = s0 10 8 := (Gs12 10 8 rfl).trans es6_5
  have es12_6 : s12 98 1 = s0 98 1 := (Gs12 98 1 rfl).trans es6_6
  have es12_7 : s12 10 9 = s0 10 9 := (Gs12 10 9 rfl).trans es6_7
  have es12_8 : s12 98 2 = s0 98 2 := (Gs12 98 2 rfl).trans es6_8
  have es12_9 : s12 10 10 = s0 10 10 := (Gs12 10 10 rfl).trans es6_9
  have es12_10 : s12 99 43 = s0 99 43 := (Gs12 99 43 rfl).trans es6_10
  have es12_11 : s12 13 2 = s0 13 2 := (Gs12 13 2 rfl).trans es6_11
  have es12_12 : s12 99 18 = s0 99 18 := (Gs12 99 18 rfl).trans es6_12
  have es12_13 : s12 16 2 = s0 16 2 := (Gs12 16 2 rfl).trans es6_13
  have es12_14 : s12 99 25 = s0 99 25 := (Gs12 99 25 rfl).trans es6_14
  have es12_15 : s12 62 0 = s0 62 0 := (Gs12 62 0 rfl).trans es6_15
  have es12_16 : s12 110 0 = s0 110 0 := (Gs12 110 0 rfl).trans es6_16
  have es12_17 : s12 62 1 = s0 62 1 := (Gs12 62 1 rfl).trans es6_17
  have es12_18 : s12 110 1 = s0 110 1 := (Gs12 110 1 rfl).trans es6_18
  clear es6_0 es6_1 es6_10 es6_11 es6_12 es6_13 es6_14 es6_15 es6_16 es6_17 es6_18 es6_2 es6_3 es6_4 es6_5 es6_6 es6_7 es6_8 es6_9
  refine h_pop (pc' := 835) rfl rfl rfl ?_
  refine h_goto (pc' := 1441) rfl rfl ?_
  exact kk _ Is12 (by first | exact d_tape.le j0 (Int.le_antisymm (by omega) (by omega)) (by omega) (fun j => (Gs12 65 j rfl).trans ((Gs6 65 j rfl))) (fun j => (Gs12 102 j rfl).trans ((Gs6 102 j rfl))) | (exfalso; omega)) (Int.le_antisymm (by omega) (by omega)) (c_R.fr (c_R.fr j2 I0 Gs6 rfl) Is6 Gs12 rfl)
set_option maxHeartbeats 100000000 in
theorem g_case_838 {ns : Nat} (hns : ns ≤ 320) (s0 : h_S) (I0 : h_I s0) (j0 : d_tape s0 s0) (j1 : s0 64 4 = s0 98 16) (j2 : c_R false s0) (y3 : Int32) (b3 : Int) (hy3 : y3.toInt = b3) (hr : 0 ≤ b3 ∧ b3 + 5 ≤ ns) {Q : Option Value → h_S → Prop} (kk : ∀ τ, h_I τ → (d_tape τ τ) → (τ 64 4 = τ 98 16) → (c_R false τ) → h_T g_P (g_Y ns) 225 1441 [(0, .ref 0), (1, .ref 9), (2, .ref 98), (3, .int y3)] [] τ Q) : h_T g_P (g_Y ns) 225 838 [(0, .ref 0), (1, .ref 9), (2, .ref 98), (3, .int y3)] [] s0 Q := by
  have F0_ : h_F (fun _ _ => true) s0 s0 := h_F.rf
  have j0_ := j0.2
  have i0 := tf_64_1 I0
  have i1 := tf_98_11 I0
  have i2 := tf_64_4 I0
  have i3 := tf_98_16 I0
  have i4 := tf_63_2 I0
  have i5 := tf_10_8 I0
  have i6 := tf_98_1 I0
  have i7 := tf_10_9 I0
  have i8 := tf_98_2 I0
  have i9 := tf_10_10 I0
  have i11 := tf_13_2 I0
  have i13 := tf_16_2 I0
  have j2_ := j2.sz
  have j2i := j2.2.2.1
  have y43 := ty_99_10 I0 43 (by omega)
  have y18 := ty_99_3 I0 18 (by omega)
  have y25 := ty_99_5 I0 25 (by omega)
  have y62_0 := ty_62 I0 0
  have y62_1 := ty_62 I0 1
  have y110_0 := ty_110 I0 0
  have y110_1 := ty_110 I0 1
  refine h_aload_n (pc' := 839) rfl rfl rfl ?_
  refine h_aload_n (pc' := 840) rfl rfl rfl ?_
  refine h_iload_n (pc' := 841) rfl rfl rfl ?_
  refine h_iconst (pc' := 842) (x := (Int32.ofInt 1)) rfl rfl rfl ?_
  refine h_iadd (pc' := 843) rfl rfl hy3 ci_1 rfl (by omega) (by omega) (fun z1 hz1 => ?_)
  refine h_iald (pc' := 844) (v := s0 0 (b3 + 1)) rfl rfl rfl hz1 (by omega) (by omega) rfl (fun z2 hz2 => ?_)
  have tz2 := h_rgv hz2
  refine h_aload_n (pc' := 845) rfl rfl rfl ?_
  refine h_iload_n (pc' := 846) rfl rfl rfl ?_
  refine h_iconst (pc' := 847) (x := (Int32.ofInt 2)) rfl rfl rfl ?_
  refine h_iadd (pc' := 848) rfl rfl hy3 ci_2 rfl (by omega) (by omega) (fun z3 hz3 => ?_)
  refine h_iald (pc' := 849) (v := s0 0 (b3 + 2)) rfl rfl rfl hz3 (by omega) (by omega) rfl (fun z4 hz4 => ?_)
  have tz4 := h_rgv hz4
  refine h_aload_n (pc' := 850) rfl rfl rfl ?_
  refine h_iload_n (pc' := 851) rfl rfl rfl ?_
  refine h_iconst (pc' := 852) (x := (Int32.ofInt 3)) rfl rfl rfl ?_
  refine h_iadd (pc' := 853) rfl rfl hy3 ci_3 rfl (by omega) (by omega) (fun z5 hz5 => ?_)
  refine h_iald (pc' := 854) (v := s0 0 (b3 + 3)) rfl rfl rfl hz5 (by omega) (by omega) rfl (fun z6 hz6 => ?_)
  have tz6 := h_rgv hz6
  refine h_call (sp := false) (pc' := 857) (M := [(0, .ref 9), (1, .int z2), (2, .int z4), (3, .int z6)]) rfl rfl rfl rfl rfl rfl rfl rfl ?_
  refine w_104_9 _ I0 z2 _ hz2 z4 _ hz4 z6 _ hz6 (fun r7 br7 hr7 s8 Is8 Gs8 tr7 => h_Kv ?_)
  have Zs8 : ∀ i, s8 0 i = s0 0 i := fun i => (Gs8 0 i rfl).trans rfl
  have Fs8 : h_F (fun _ _ => true) s8 s0 := fun _ _ h => by cases h
  have es8_0 : s8 64 1 = s0 64 1 := (Gs8 64 1 rfl).trans rfl
  have es8_1 : s8 98 11 = s0 98 11 := (Gs8 98 11 rfl).trans rfl
  have es8_2 : s8 64 4 = s0 64 4 := (Gs8 64 4 rfl).trans rfl
  have es8_3 : s8 98 16 = s0 98 16 := (Gs8 98 16 rfl).trans rfl
  have es8_4 : s8 63 2 = s0 63 2 := (Gs8 63 2 rfl).trans rfl
  have es8_5 : s8 10 8 = s0 10 8 := (Gs8 10 8 rfl).trans rfl
  have es8_6 : s8 98 1 = s0 98 1 := (Gs8 98 1 rfl).trans rfl
  have es8_7 : s8 10 9 = s0 10 9 := (Gs8 10 9 rfl).trans rfl
  have es8_8 : s8 98 2 = s0 98 2 := (Gs8 98 2 rfl).trans rfl
  have es8_9 : s8 10 10 = s0 10 10 := (Gs8 10 10 rfl).trans rfl
  have es8_10 : s8 99 43 = s0 99 43 := (Gs8 99 43 rfl).trans rfl
  have es8_11 : s8 13 2 = s0 13 2 := (Gs8 13 2 rfl).trans rfl
  have es8_12 : s8 99 18 = s0 99 18 := (Gs8 99 18 rfl).trans rfl
  have es8_13 : s8 16 2 = s0 16 2 := (Gs8 16 2 rfl).trans rfl
  have es8_14 : s8 99 25 = s0 99 25 := (Gs8 99 25 rfl).trans rfl
  have es8_15 : s8 62 0 = s0 62 0 := (Gs8 62 0 rfl).trans rfl
  have es8_16 : s8 110 0 = s0 110 0 := (Gs8 110 0 rfl).trans rfl
  have es8_17 : s8 62 1 = s0 62 1 := (Gs8 62 1 rfl).trans rfl
  have es8_18 : s8 110 1 = s0 110 1 := (Gs8 110 1 rfl).trans rfl
  refine h_pop (pc' := 858) rfl rfl rfl ?_
  refine h_aload_n (pc' := 859) rfl rfl rfl ?_
  refine h_aload_n (pc' := 860) rfl rfl rfl ?_
  refine h_iload_n (pc' := 861) rfl rfl rfl ?_
  refine h_iconst (pc' := 862) (x := (Int32.ofInt 1)) rfl rfl rfl ?_
  refine h_iadd (pc' := 863) rfl rfl hy3 ci_1 rfl (by omega) (by omega) (fun z9 hz9 => ?_)
  refine h_iald (pc' := 864) (v := s0 0 (b3 + 1)) rfl rfl rfl hz9 (by omega) (by omega) (Zs8 _) (fun z10 hz10 => ?_)
  have tz10 := h_rgv hz10
  refine h_aload_n (pc' := 865) rfl rfl rfl ?_
  refine h_iload_n (pc' := 866) rfl rfl rfl ?_
  refine h_iconst (pc' := 867) (x := (Int32.ofInt 2)) rfl rfl rfl ?_
  refine h_iadd (pc' := 868) rfl rfl hy3 ci_2 rfl (by omega) (by omega) (fun z11 hz11 => ?_)
  refine h_iald (pc' := 869) (v := s0 0 (b3 + 2)) rfl rfl rfl hz11 (by omega) (by omega) (Zs8 _) (fun z12 hz12 => ?_)
  have tz12 := h_rgv hz12
  refine h_aload_n (pc' := 870) rfl rfl rfl ?_
  refine h_iload_n (pc' := 871) rfl rfl rfl ?_
  refine h_iconst (pc' := 872) (x := (Int32.ofInt 3)) rfl rfl rfl ?_
  refine h_iadd (pc' := 873) rfl rfl hy3 ci_3 rfl (by omega) (by omega) (fun z13 hz13 => ?_)
  refine h_iald (pc' := 874) (v := s0 0 (b3 + 3)) rfl rfl rfl hz13 (by omega) (by omega) (Zs8 _) (fun z14 hz14 => ?_)
  have tz14 := h_rgv hz14
  refine h_call (sp := false) (pc' := 877) (M := [(0, .ref 98), (1, .int z10), (2, .int z12), (3, .int z14)]) rfl rfl rfl rfl rfl rfl rfl rfl ?_
  refine w_201_98 _ Is8 z10 _ hz10 z12 _ hz12 z14 _ hz14 (fun r15 br15 hr15 s16 Is16 Gs16 tr15 => h_Kv ?_)
  have Zs16 : ∀ i, s16 0 i = s0 0 i := fun i => (Gs16 0 i rfl).trans (Zs8 i)
  have Fs16 : h_F (fun _ _ => true) s16 s0 := fun _ _ h => by cases h
  have es16_0 : s16 64 1 = s0 64 1 := (Gs16 64 1 rfl).trans es8_0
  have es16_1 : s16 98 11 = s0 98 11 := (Gs16 98 11 rfl).trans es8_1
  have es16_2 : s16 64 4 = s0 64 4 := (Gs16 64 4 rfl).trans es8_2
  have es16_3 : s16 98 16 = s0 98 16 := (Gs16 98 16 rfl).trans es8_3
  have es16_4 : s16 63 2 = s0 63 2 := (Gs16 63 2 rfl).trans es8_4
  have es16_5 : s16 10 8 = s0 10 8 := (Gs16 10 8 rfl).trans es8_5
  have es16_6 : s16 98 1 = s0 98 1 := (Gs16 98 1 rfl).trans es8_6
  have es16_7 : s16 10 9 = s0 10 9 := (Gs16 10 9 rfl).trans es8_7
  have es16_8 : s16 98 2 = s0 98 2 := (Gs16 98 2 rfl).trans es8_8
  have es16_9 : s16 10 10 = s0 10 10 := (Gs16 10 10 rfl).trans es8_9
  have es16_10 : s16 99 43 = s0 99 43 := (Gs16 99 43 rfl).trans es8_10
  have es16_11 : s16 13 2 = s0 13 2 := (Gs16 13 2 rfl).trans es8_11
  have es16_12 : s16 99 18 = s0 99 18 := (Gs16 99 18 rfl).trans es8_12
  have es16_13 : s16 16 2 = s0 16 2 := (Gs16 16 2 rfl).trans es8_13
  have es16_14 : s16 99 25 = s0 99 25 := (Gs16 99 25 rfl).trans es8_14
  have es16_15 : s16 62 0 = s0 62 0 := (Gs16 62 0 rfl).trans es8_15
  have es16_16 : s16 110 0 = s0 110 0 := (Gs16 110 0 rfl).trans es8_16
  have es16_17 : s16 62 1 = s0 62 1 := (Gs16 62 1 rfl).trans es8_17
  have es16_18 : s16 110 1 = s0 110 1 := (Gs16 110 1 rfl).trans es8_18
  clear es8_0 es8_1 es8_10 es8_11 es8_12 es8_13 es8_14 es8_15 es8_16 es8_17 es8_18 es8_2 es8_3 es8_4 es8_5 es8_6 es8_7 es8_8 es8_9
  refine h_pop (pc' := 878) rfl rfl rfl ?_
  refine h_goto (pc' := 1441) rfl rfl ?_
  exact kk _ Is16 (by first | exact d_tape.le j0 (Int.le_antisymm (by omega) (by omega)) (by omega) (fun j => (Gs16 65 j rfl).trans ((Gs8 65 j rfl))) (fun j => (Gs16 102 j rfl).trans ((Gs8 102 j rfl))) | (exfalso; omega)) (Int.le_antisymm (by omega) (by omega)) (c_R.fr (c_R.fr j2 I0 Gs8 rfl) Is8 Gs16 rfl)
set_option maxHeartbeats 100000000 in
theorem g_case_881 {ns : Nat} (hns : ns ≤ 320) (s0 : h_S) (I0 : h_I s0) (j0 : d_tape s0 s0) (j1 : s0 64 4 = s0 98 16) (j2 : c_R false s0) (y3 : Int32) (b3 : Int) (hy3 : y3.toInt = b3) (hr : 0 ≤ b3 ∧ b3 + 5 ≤ ns) {Q : Option Value → h_S → Prop} (kk : ∀ τ, h_I τ → (d_tape τ τ) → (τ 64 4 = τ 98 16) → (c_R false τ) → h_T g_P (g_Y ns) 225 1441 [(0, .ref 0), (1, .ref 9), (2, .ref 98), (3, .int y3)] [] τ Q) : h_T g_P (g_Y ns) 225 881 [(0, .ref 0), (1, .ref 9), (2, .ref 98), (3, .int y3)] [] s0 Q := by
  have F0_ : h_F (fun _ _ => true) s0 s0 := h_F.rf
  have j0_ := j0.2
  have i0 := tf_64_1 I0
  have i1 := tf_98_11 I0
  have i2 := tf_64_4 I0
  have i3 := tf_98_16 I0
  have i4 := tf_63_2 I0
  have i5 := tf_10_8 I0
  have i6 := tf_98_1 I0
  have i7 := tf_10_9 I0
  have i8 := tf_98_2 I0
  have i9 := tf_10_10 I0
  have i11 := tf_13_2 I0
  have i13 := tf_16_2 I0
  have j2_ := j2.sz
  have j2i := j2.2.2.1
  have y43 := ty_99_10 I0 43 (by omega)
  have y18 := ty_99_3 I0 18 (by omega)
  have y25 := ty_99_5 I0 25 (by omega)
  have y62_0 := ty_62 I0 0
  have y62_1 := ty_62 I0 1
  have y110_0 := ty_110 I0 0
  have y110_1 := ty_110 I0 1
  refine h_aload_n (pc' := 882) rfl rfl rfl ?_
  refine h_aload_n (pc' := 883) rfl rfl rfl ?_
  refine h_iload_n (pc' := 884) rfl rfl rfl ?_
  refine h_iconst (pc' := 885) (x := (Int32.ofInt 1)) rfl rfl rfl ?_
  refine h_iadd (pc' := 886) rfl rfl hy3 ci_1 rfl (by omega) (by omega) (fun z1 hz1 => ?_)
  refine h_iald (pc' := 887) (v := s0 0 (b3 + 1)) rfl rfl rfl hz1 (by omega) (by omega) rfl (fun z2 hz2 => ?_)
  have tz2 := h_rgv hz2
  refine h_aload_n (pc' := 888) rfl rfl rfl ?_
  refine h_iload_n (pc' := 889) rfl rfl rfl ?_
  refine h_iconst (pc' := 890) (x := (Int32.ofInt 2)) rfl rfl rfl ?_
  refine h_iadd (pc' := 891) rfl rfl hy3 ci_2 rfl (by omega) (by omega) (fun z3 hz3 => ?_)
  refine h_iald (pc' := 892) (v := s0 0 (b3 + 2)) rfl rfl rfl hz3 (by omega) (by omega) rfl (fun z4 hz4 => ?_)
  have tz4 := h_rgv hz4
  refine h_call (sp := false) (pc' := 895) (M := [(0, .ref 9), (1, .int z2), (2, .int z4)]) rfl rfl rfl rfl rfl rfl rfl rfl ?_
  refine w_105_9 _ I0 z2 _ hz2 z4 _ hz4 (fun r5 br5 hr5 s6 Is6 Gs6 => h_Kv ?_)
  have Zs6 : ∀ i, s6 0 i = s0 0 i := fun i => (Gs6 0 i rfl).trans rfl
  have Fs6 : h_F (fun _ _ => true) s6 s0 := fun _ _ h => by cases h
  have es6_0 : s6 64 1 = s0 64 1 := (Gs6 64 1 rfl).trans rfl
  have es6_1 : s6 98 11 = s0 98 11 := (Gs6 98 11 rfl).trans rfl
  have es6_2 : s6 64 4 = s0 64 4 := (Gs6 64 4 rfl).trans rfl
  have es6_3 : s6 98 16 = s0 98 16 := (Gs6 98 16 rfl).trans rfl
  have es6_4 : s6 63 2 = s0 63 2 := (Gs6 63 2 rfl).trans rfl
  have es6_5 : s6 10 8 = s0 10 8 := (Gs6 10 8 rfl).trans rfl
  have es6_6 : s6 98 1 = s0 98 1 := (Gs6 98 1 rfl).trans rfl
  have es6_7 : s6 10 9 = s0 10 9 := (Gs6 10 9 rfl).trans rfl
  have es6_8 : s6 98 2 = s0 98 2 := (Gs6 98 2 rfl).trans rfl
  have es6_9 : s6 10 10 = s0 10 10 := (Gs6 10 10 rfl).trans rfl
  have es6_10 : s6 99 43 = s0 99 43 := (Gs6 99 43 rfl).trans rfl
  have es6_11 : s6 13 2 = s0 13 2 := (Gs6 13 2 rfl).trans rfl
  have es6_12 : s6 99 18 = s0 99 18 := (Gs6 99 18 rfl).trans rfl
  have es6_13 : s6 16 2 = s0 16 2 := (Gs6 16 2 rfl).trans rfl
  have es6_14 : s6 99 25 = s0 99 25 := (Gs6 99 25 rfl).trans rfl
  have es6_15 : s6 62 0 = s0 62 0 := (Gs6 62 0 rfl).trans rfl
  have es6_16 : s6 110 0 = s0 110 0 := (Gs6 110 0 rfl).trans rfl
  have es6_17 : s6 62 1 = s0 62 1 := (Gs6 62 1 rfl).trans rfl
  have es6_18 : s6 110 1 = s0 110 1 := (Gs6 110 1 rfl).trans rfl
  refine h_pop (pc' := 896) rfl rfl rfl ?_
  refine h_aload_n (pc' := 897) rfl rfl rfl ?_
  refine h_aload_n (pc' := 898) rfl rfl rfl ?_
  refine h_iload_n (pc' := 899) rfl rfl rfl ?_
  refine h_iconst (pc' := 900) (x := (Int32.ofInt 1)) rfl rfl rfl ?_
  refine h_iadd (pc' := 901) rfl rfl hy3 ci_1 rfl (by omega) (by omega) (fun z7 hz7 => ?_)
  refine h_iald (pc' := 902) (v := s0 0 (b3 + 1)) rfl rfl rfl hz7 (by omega) (by omega) (Zs6 _) (fun z8 hz8 => ?_)
  have tz8 := h_rgv hz8
  refine h_aload_n (pc' := 903) rfl rfl rfl ?_
  refine h_iload_n (pc' := 904) rfl rfl rfl ?_
  refine h_iconst (pc' := 905) (x := (Int32.ofInt 2)) rfl rfl rfl ?_
  refine h_iadd (pc' := 906) rfl rfl hy3 ci_2 rfl (by omega) (by omega) (fun z9 hz9 => ?_)
  refine h_iald (pc' := 907) (v := s0 0 (b3 + 2)) rfl rfl rfl hz9 (by omega) (by omega) (Zs6 _) (fun z10 hz10 => ?_)
  have tz10 := h_rgv hz10
  refine h_call (sp := false) (pc' := 910) (M := [(0, .ref 98), (1, .int z8), (2, .int z10)]) rfl rfl rfl rfl rfl rfl rfl rfl ?_
  refine n_match _ Is6 z8 _ hz8 z10 _ hz10 (fun r11 br11 hr11 s12 Is12 Gs12 tr11 ps12_0 => h_Kv ?_)
  have Zs12 : ∀ i, s12 0 i = s0 0 i := fun i => (Gs12 0 i rfl).trans (Zs6 i)
  have Fs12 : h_F (fun _ _ => true) s12 s0 := fun _ _ h => by cases h
  have es12_0 : s12 64 1 = s0 64 1 := (Gs12 64 1 rfl).trans es6_0
  have es12_1 : s12 98 11 = s0 98 11 := (Gs12 98 11 rfl).trans es6_1
  have es12_2 : s12 64 4 = s0 64 4 := (Gs12 64 4 rfl).trans es6_2
  have es12_3 : s12 98 16 = s0 98 16 := (Gs12 98 16 rfl).trans es6_3
  have es12_4 : s12 63 2 = s0 63 2 := (Gs12 63 2 rfl).trans es6_4
  have es12_5 : s12 10 8 = s0 10 8 := (Gs12 10 8 rfl).trans es6_5
  have es12_6 : s12 98 1 = s0 98 1 := (Gs12 98 1 rfl).trans es6_6
  have es12_7 : s12 10 9 = s0 10 9 := (Gs12 10 9 rfl).trans es6_7
  have es12_8 : s12 98 2 = s0 98 2 := (Gs12 98 2 rfl).trans es6_8
  have es12_9 : s12 10 10 = s0 10 10 := (Gs12 10 10 rfl).trans es6_9
  have es12_11 : s12 13 2 = s0 13 2 := (Gs12 13 2 rfl).trans es6_11
  have es12_13 : s12 16 2 = s0 16 2 := (Gs12 16 2 rfl).trans es6_13
  have es12_15 : s12 62 0 = s0 62 0 := (Gs12 62 0 rfl).trans es6_15
  have es12_16 : s12 110 0 = s0 110 0 := (Gs12 110 0 rfl).trans es6_16
  have es12_17 : s12 62 1 = s0 62 1 := (Gs12 62 1 rfl).trans es6_17
  have es12_18 : s12 110 1 = s0 110 1 := (Gs12 110 1 rfl).trans es6_18
  refine h_pop (pc' := 911) rfl rfl rfl ?_
  refine h_goto (pc' := 1441) rfl rfl ?_
  exact kk _ Is12 (by first | exact d_tape.le j0 (Int.le_antisymm (by omega) (by omega)) (by omega) (fun j => (Gs12 65 j rfl).trans ((Gs6 65 j rfl))) (fun j => (Gs12 102 j rfl).trans ((Gs6 102 j rfl))) | (exfalso; omega)) (Int.le_antisymm (by omega) (by omega)) (c_R.pag (c_R.fr j2 I0 Gs6 rfl) Is6 Gs12 ps12_0.wk rfl)
set_option maxHeartbeats 100000000 in
theorem g_case_914 {ns : Nat} (hns : ns ≤ 320) (s0 : h_S) (I0 : h_I s0) (j0 : d_tape s0 s0) (j1 : s0 64 4 = s0 98 16) (j2 : c_R false s0) (y3 : Int32) (b3 : Int) (hy3 : y3.toInt = b3) (hr : 0 ≤ b3 ∧ b3 + 5 ≤ ns) {Q : Option Value → h_S → Prop} (kk : ∀ τ, h_I τ → (d_tape τ τ) → (τ 64 4 = τ 98 16) → (c_R false τ) → h_T g_P (g_Y ns) 225 1441 [(0, .ref 0), (1, .ref 9), (2, .ref 98), (3, .int y3)] [] τ Q) : h_T g_P (g_Y ns) 225 914 [(0, .ref 0), (1, .ref 9), (2, .ref 98), (3, .int y3)] [] s0 Q := by
  have F0_ : h_F (fun _ _ => true) s0 s0 := h_F.rf
  have j0_ := j0.2
  have i0 := tf_64_1 I0
  have i1 := tf_98_11 I0
  have i2 := tf_64_4 I0
  have i3 := tf_98_16 I0
  have i4 := tf_63_2 I0
  have i5 := tf_10_8 I0
  have i6 := tf_98_1 I0
  have i7 := tf_10_9 I0
  have i8 := tf_98_2 I0
  have i9 := tf_10_10 I0
  have i11 := tf_13_2 I0
  have i13 := tf_16_2 I0
  have j2_ := j2.sz
  have j2i := j2.2.2.1
  have y43 := ty_99_10 I0 43 (by omega)
  have y18 := ty_99_3 I0 18 (by omega)
  have y25 := ty_99_5 I0 25 (by omega)
  have y62_0 := ty_62 I0 0
  have y62_1 := ty_62 I0 1
  have y110_0 := ty_110 I0 0
  have y110_1 := ty_110 I0 1
  refine h_aload_n (pc' := 915) rfl rfl rfl ?_
  refine h_call (sp := false) (pc' := 918) (M := [(0, .ref 9)]) rfl rfl rfl rfl rfl rfl rfl rfl ?_
  refine w_106_9 _ I0  (fun r1 br1 hr1 s2 Is2 Gs2 => h_Kv ?_)
  have Zs2 : ∀ i, s2 0 i = s0 0 i := fun i => (Gs2 0 i rfl).trans rfl
  have Fs2 : h_F (fun _ _ => true) s2 s0 := fun _ _ h => by cases h
  have es2_0 : s2 64 1 = s0 64 1 := (Gs2 64 1 rfl).trans rfl
  have es2_1 : s2 98 11 = s0 98 11 := (Gs2 98 11 rfl).trans rfl
  have es2_2 : s2 64 4 = s0 64 4 := (Gs2 64 4 rfl).trans rfl
  have es2_3 : s2 98 16 = s0 98 16 := (Gs2 98 16 rfl).trans rfl
  have es2_4 : s2 63 2 = s0 63 2 := (Gs2 63 2 rfl).trans rfl
  have es2_5 : s2 10 8 = s0 10 8 := (Gs2 10 8 rfl).trans rfl
  have es2_6 : s2 98 1 = s0 98 1 := (Gs2 98 1 rfl).trans rfl
  have es2_7 : s2 10 9 = s0 10 9 := (Gs2 10 9 rfl).trans rfl
  have es2_8 : s2 98 2 = s0 98 2 := (Gs2 98 2 rfl).trans rfl
  have es2_9 : s2 10 10 = s0 10 10 := (Gs2 10 10 rfl).trans rfl
  have es2_10 : s2 99 43 = s0 99 43 := (Gs2 99 43 rfl).trans rfl
  have es2_11 : s2 13 2 = s0 13 2 := (Gs2 13 2 rfl).trans rfl
  have es2_12 : s2 99 18 = s0 99 18 := (Gs2 99 18 rfl).trans rfl
  have es2_13 : s2 16 2 = s0 16 2 := (Gs2 16 2 rfl).trans rfl
  have es2_14 : s2 99 25 = s0 99 25 := (Gs2 99 25 rfl).trans rfl
  have es2_15 : s2 62 0 = s0 62 0 := (Gs2 62 0 rfl).trans rfl
  have es2_16 : s2 110 0 = s0 110 0 := (Gs2 110 0 rfl).trans rfl
  have es2_17 : s2 62 1 = s0 62 1 := (Gs2 62 1 rfl).trans rfl
  have es2_18 : s2 110 1 = s0 110 1 := (Gs2 110 1 rfl).trans rfl
  refine h_pop (pc' := 919) rfl rfl rfl ?_
  refine h_aload_n (pc' := 920) rfl rfl rfl ?_
  refine h_call (sp := false) (pc' := 923) (M := [(0, .ref 98)]) rfl rfl rfl rfl rfl rfl rfl rfl ?_
  refine w_203_98 _ Is2  (fun r3 br3 hr3 s4 Is4 Gs4 => h_Kv ?_)
  have Zs4 : ∀ i, s4 0 i = s0 0 i := fun i => (Gs4 0 i rfl).trans (Zs2 i)
  have Fs4 : h_F (fun _ _ => true) s4 s0 := fun _ _ h => by cases h
  have es4_0 : s4 64 1 = s0 64 1 := (Gs4 64 1 rfl).trans es2_0
  have es4_1 : s4 98 11 = s0 98 11 := (Gs4 98 11 rfl).trans es2_1
  have es4_2 : s4 64 4 = s0 64 4 := (Gs4 64 4 rfl).trans es2_2
  have es4_3 : s4 98 16 = s0 98 16 := (Gs4 98 16 rfl).trans es2_3
  have es4_4 : s4 63 2 = s0 63 2 := (Gs4 63 2 rfl).trans es2_4
  have es4_5 : s4 10 8 = s0 10 8 := (Gs4 10 8 rfl).trans es2_5
  have es4_6 : s4 98 1 = s0 98 1 := (Gs4 98 1 rfl).trans es2_6
  have es4_7 : s4 10 9 = s0 10 9 := (Gs4 10 9 rfl).trans es2_7
  have es4_8 : s4 98 2 = s0 98 2 := (Gs4 98 2 rfl).trans es2_8
  have es4_9 : s4 10 10 = s0 10 10 := (Gs4 10 10 rfl).trans es2_9
  have es4_10 : s4 99 43 = s0 99 43 := (Gs4 99 43 rfl).trans es2_10
  have es4_11 : s4 13 2 = s0 13 2 := (Gs4 13 2 rfl).trans es2_11
  have es4_12 : s4 99 18 = s0 99 18 := (Gs4 99 18 rfl).trans es2_12
  have es4_13 : s4 16 2 = s0 16 2 := (Gs4 16 2 rfl).trans es2_13
  have es4_14 : s4 99 25 = s0 99 25 := (Gs4 99 25 rfl).trans es2_14
  have es4_15 : s4 62 0 = s0 62 0 := (Gs4 62 0 rfl).trans es2_15
  have es4_16 : s4 110 0 = s0 110 0 := (Gs4 110 0 rfl).trans es2_16
  have es4_17 : s4 62 1 = s0 62 1 := (Gs4 62 1 rfl).trans es2_17
  have es4_18 : s4 110 1 = s0 110 1 := (Gs4 110 1 rfl).trans es2_18
  clear es2_0 es2_1 es2_10 es2_11 es2_12 es2_13 es2_14 es2_15 es2_16 es2_17 es2_18 es2_2 es2_3 es2_4 es2_5 es2_6 es2_7 es2_8 es2_9
  refine h_pop (pc' := 924) rfl rfl rfl ?_
  refine h_goto (pc' := 1441) rfl rfl ?_
  exact kk _ Is4 (by first | exact d_tape.le j0 (Int.le_antisymm (by omega) (by omega)) (by omega) (fun j => (Gs4 65 j rfl).trans ((Gs2 65 j rfl))) (fun j => (Gs4 102 j rfl).trans ((Gs2 102 j rfl))) | (exfalso; omega)) (Int.le_antisymm (by omega) (by omega)) (c_R.fr (c_R.fr j2 I0 Gs2 rfl) Is2 Gs4 rfl)
set_option maxHeartbeats 100000000 in
theorem g_case_927 {ns : Nat} (hns : ns ≤ 320) (s0 : h_S) (I0 : h_I s0) (j0 : d_tape s0 s0) (j1 : s0 64 4 = s0 98 16) (j2 : c_R false s0) (y3 : Int32) (b3 : Int) (hy3 : y3.toInt = b3) (hr : 0 ≤ b3 ∧ b3 + 5 ≤ ns) {Q : Option Value → h_S → Prop} (kk : ∀ τ, h_I τ → (d_tape τ τ) → (τ 64 4 = τ 98 16) → (c_R false τ) → h_T g_P (g_Y ns) 225 1441 [(0, .ref 0), (1, .ref 9), (2, .ref 98), (3, .int y3)] [] τ Q) : h_T g_P (g_Y ns) 225 927 [(0, .ref 0), (1, .ref 9), (2, .ref 98), (3, .int y3)] [] s0 Q := by
  have F0_ : h_F (fun _ _ => true) s0 s0 := h_F.rf
  have j0_ := j0.2
  have i0 := tf_64_1 I0
  have i1 := tf_98_11 I0
  have i2 := tf_64_4 I0
  have i3 := tf_98_16 I0
  have i4 := tf_63_2 I0
  have i5 := tf_10_8 I0
  have i6 := tf_98_1 I0
  have i7 := tf_10_9 I0
  have i8 := tf_98_2 I0
  have i9 := tf_10_10 I0
  have i11 := tf_13_2 I0
  have i13 := tf_16_2 I0
  have j2_ := j2.sz
  have j2i := j2.2.2.1
  have y43 := ty_99_10 I0 43 (by omega)
  have y18 := ty_99_3 I0 18 (by omega)
  have y25 := ty_99_5 I0 25 (by omega)
  have y62_0 := ty_62 I0 0
  have y62_1 := ty_62 I0 1
  have y110_0 := ty_110 I0 0
  have y110_1 := ty_110 I0 1
  refine h_aload_n (pc' := 928) rfl rfl rfl ?_
  refine h_aload_n (pc' := 929) rfl rfl rfl ?_
  refine h_iload_n (pc' := 930) rfl rfl rfl ?_
  refine h_iconst (pc' := 931) (x := (Int32.ofInt 1)) rfl rfl rfl ?_
  refine h_iadd (pc' := 932) rfl rfl hy3 ci_1 rfl (by omega) (by omega) (fun z1 hz1 => ?_)
  refine h_iald (pc' := 933) (v := s0 0 (b3 + 1)) rfl rfl rfl hz1 (by omega) (by omega) rfl (fun z2 hz2 => ?_)
  have tz2 := h_rgv hz2
  refine h_call (sp := false) (pc' := 936) (M := [(0, .ref 9), (1, .int z2)]) rfl rfl rfl rfl rfl rfl rfl rfl ?_
  refine w_107_9 _ I0 z2 _ hz2 (fun r3 br3 hr3 s4 Is4 Gs4 tr3 => h_Kv ?_)
  have Zs4 : ∀ i, s4 0 i = s0 0 i := fun i => (Gs4 0 i rfl).trans rfl
  have Fs4 : h_F (fun _ _ => true) s4 s0 := fun _ _ h => by cases h
  have es4_0 : s4 64 1 = s0 64 1 := (Gs4 64 1 rfl).trans rfl
  have es4_1 : s4 98 11 = s0 98 11 := (Gs4 98 11 rfl).trans rfl
  have es4_2 : s4 64 4 = s0 64 4 := (Gs4 64 4 rfl).trans rfl
  have es4_3 : s4 98 16 = s0 98 16 := (Gs4 98 16 rfl).trans rfl
  have es4_4 : s4 63 2 = s0 63 2 := (Gs4 63 2 rfl).trans rfl
  have es4_5 : s4 10 8 = s0 10 8 := (Gs4 10 8 rfl).trans rfl
  have es4_6 : s4 98 1 = s0 98 1 := (Gs4 98 1 rfl).trans rfl
  have es4_7 : s4 10 9 = s0 10 9 := (Gs4 10 9 rfl).trans rfl
  have es4_8 : s4 98 2 = s0 98 2 := (Gs4 98 2 rfl).trans rfl
  have es4_9 : s4 10 10 = s0 10 10 := (Gs4 10 10 rfl).trans rfl
  have es4_10 : s4 99 43 = s0 99 43 := (Gs4 99 43 rfl).trans rfl
  have es4_11 : s4 13 2 = s0 13 2 := (Gs4 13 2 rfl).trans rfl
  have es4_12 : s4 99 18 = s0 99 18 := (Gs4 99 18 rfl).trans rfl
  have es4_13 : s4 16 2 = s0 16 2 := (Gs4 16 2 rfl).trans rfl
  have es4_14 : s4 99 25 = s0 99 25 := (Gs4 99 25 rfl).trans rfl
  have es4_15 : s4 62 0 = s0 62 0 := (Gs4 62 0 rfl).trans rfl
  have es4_16 : s4 110 0 = s0 110 0 := (Gs4 110 0 rfl).trans rfl
  have es4_17 : s4 62 1 = s0 62 1 := (Gs4 62 1 rfl).trans rfl
  have es4_18 : s4 110 1 = s0 110 1 := (Gs4 110 1 rfl).trans rfl
  refine h_pop (pc' := 937) rfl rfl rfl ?_
  refine h_aload_n (pc' := 938) rfl rfl rfl ?_
  refine h_aload_n (pc' := 939) rfl rfl rfl ?_
  refine h_iload_n (pc' := 940) rfl rfl rfl ?_
  refine h_iconst (pc' := 941) (x := (Int32.ofInt 1)) rfl rfl rfl ?_
  refine h_iadd (pc' := 942) rfl rfl hy3 ci_1 rfl (by omega) (by omega) (fun z5 hz5 => ?_)
  refine h_iald (pc' := 943) (v := s0 0 (b3 + 1)) rfl rfl rfl hz5 (by omega) (by omega) (Zs4 _) (fun z6 hz6 => ?_)
  have tz6 := h_rgv hz6
  refine h_call (sp := false) (pc' := 946) (M := [(0, .ref 98), (1, .int z6)]) rfl rfl rfl rfl rfl rfl rfl rfl ?_
  refine w_204_98 _ Is4 z6 _ hz6 (fun r7 br7 hr7 s8 Is8 Gs8 tr7 => h_Kv ?_)
  have Zs8 : ∀ i, s8 0 i = s0 0 i := fun i => (Gs8 0 i rfl).trans (Zs4 i)
  have Fs8 : h_F (fun _ _ => true) s8 s0 := fun _ _ h => by cases h
  have es8_0 : s8 64 1 = s0 64 1 := (Gs8 64 1 rfl).trans es4_0
  have es8_1 : s8 98 11 = s0 98 11 := (Gs8 98 11 rfl).trans es4_1
  have es8_2 : s8 64 4 = s0 64 4 := (Gs8 64 4 rfl).trans es4_2
  have es8_3 : s8 98 16 = s0 98 16 := (Gs8 98 16 rfl).trans es4_3
  have es8_4 : s8 63 2 = s0 63 2 := (Gs8 63 2 rfl).trans es4_4
  have es8_5 : s8 10 8 = s0 10 8 := (Gs8 10 8 rfl).trans es4_5
  have es8_6 : s8 98 1 = s0 98 1 := (Gs8 98 1 rfl).trans es4_6
  have es8_7 : s8 10 9 = s0 10 9 := (Gs8 10 9 rfl).trans es4_7
  have es8_8 : s8 98 2 = s0 98 2 := (Gs8 98 2 rfl).trans es4_8
  have es8_9 : s8 10 10 = s0 10 10 := (Gs8 10 10 rfl).trans es4_9
  have es8_10 : s8 99 43 = s0 99 43 := (Gs8 99 43 rfl).trans es4_10
  have es8_11 : s8 13 2 = s0 13 2 := (Gs8 13 2 rfl).trans es4_11
  have es8_12 : s8 99 18 = s0 99 18 := (Gs8 99 18 rfl).trans es4_12
  have es8_13 : s8 16 2 = s0 16 2 := (Gs8 16 2 rfl).trans es4_13
  have es8_14 : s8 99 25 = s0 99 25 := (Gs8 99 25 rfl).trans es4_14
  have es8_15 : s8 62 0 = s0 62 0 := (Gs8 62 0 rfl).trans es4_15
  have es8_16 : s8 110 0 = s0 110 0 := (Gs8 110 0 rfl).trans es4_16
  have es8_17 : s8 62 1 = s0 62 1 := (Gs8 62 1 rfl).trans es4_17
  have es8_18 : s8 110 1 = s0 110 1 := (Gs8 110 1 rfl).trans es4_18
  clear es4_0 es4_1 es4_10 es4_11 es4_12 es4_13 es4_14 es4_15 es4_16 es4_17 es4_18 es4_2 es4_3 es4_4 es4_5 es4_6 es4_7 es4_8 es4_9
  refine h_pop (pc' := 947) rfl rfl rfl ?_
  refine h_goto (pc' := 1441) rfl rfl ?_
  exact kk _ Is8 (by first | exact d_tape.le j0 (Int.le_antisymm (by omega) (by omega)) (by omega) (fun j => (Gs8 65 j rfl).trans ((Gs4 65 j rfl))) (fun j => (Gs8 102 j rfl).trans ((Gs4 102 j rfl))) | (exfalso; omega)) (Int.le_antisymm (by omega) (by omega)) (c_R.fr (c_R.fr j2 I0 Gs4 rfl) Is4 Gs8 rfl)
set_option maxHeartbeats 100000000 in
theorem g_case_950 {ns : Nat} (hns : ns ≤ 320) (s0 : h_S) (I0 : h_I s0) (j0 : d_tape s0 s0) (j1 : s0 64 4 = s0 98 16) (j2 : c_R false s0) (y3 : Int32) (b3 : Int) (hy3 : y3.toInt = b3) (hr : 0 ≤ b3 ∧ b3 + 5 ≤ ns) {Q : Option Value → h_S → Prop} (kk : ∀ τ, h_I τ → (d_tape τ τ) → (τ 64 4 = τ 98 16) → (c_R false τ) → h_T g_P (g_Y ns) 225 1441 [(0, .ref 0), (1, .ref 9), (2, .ref 98), (3, .int y3)] [] τ Q) : h_T g_P (g_Y ns) 225 950 [(0, .ref 0), (1, .ref 9), (2, .ref 98), (3, .int y3)] [] s0 Q := by
  have F0_ : h_F (fun _ _ => true) s0 s0 := h_F.rf
  have j0_ := j0.2
  have i0 := tf_64_1 I0
  have i1 := tf_98_11 I0
  have i2 := tf_64_4 I0
  have i3 := tf_98_16 I0
  have i4 := tf_63_2 I0
  have i5 := tf_10_8 I0
  have i6 := tf_98_1 I0
  have i7 := tf_10_9 I0
  have i8 := tf_98_2 I0
  have i9 := tf_10_10 I0
  have i11 := tf_13_2 I0
  have i13 := tf_16_2 I0
  have j2_ := j2.sz
  have j2i := j2.2.2.1
  have y43 := ty_99_10 I0 43 (by omega)
  have y18 := ty_99_3 I0 18 (by omega)
  have y25 := ty_99_5 I0 25 (by omega)
  have y62_0 := ty_62 I0 0
  have y62_1 := ty_62 I0 1
  have y110_0 := ty_110 I0 0
  have y110_1 := ty_110 I0 1
  refine h_aload_n (pc' := 951) rfl rfl rfl ?_
  refine h_aload_n (pc' := 952) rfl rfl rfl ?_
  refine h_iload_n (pc' := 953) rfl rfl rfl ?_
  refine h_iconst (pc' := 954) (x := (Int32.ofInt 1)) rfl rfl rfl ?_
  refine h_iadd (pc' := 955) rfl rfl hy3 ci_1 rfl (by omega) (by omega) (fun z1 hz1 => ?_)
  refine h_iald (pc' := 956) (v := s0 0 (b3 + 1)) rfl rfl rfl hz1 (by omega) (by omega) rfl (fun z2 hz2 => ?_)
  have tz2 := h_rgv hz2
  refine h_aload_n (pc' := 957) rfl rfl rfl ?_
  refine h_iload_n (pc' := 958) rfl rfl rfl ?_
  refine h_iconst (pc' := 959) (x := (Int32.ofInt 2)) rfl rfl rfl ?_
  refine h_iadd (pc' := 960) rfl rfl hy3 ci_2 rfl (by omega) (by omega) (fun z3 hz3 => ?_)
  refine h_iald (pc' := 961) (v := s0 0 (b3 + 2)) rfl rfl rfl hz3 (by omega) (by omega) rfl (fun z4 hz4 => ?_)
  have tz4 := h_rgv hz4
  refine h_call (sp := false) (pc' := 964) (M := [(0, .ref 9), (1, .int z2), (2, .int z4)]) rfl rfl rfl rfl rfl rfl rfl rfl ?_
  refine w_108_9 _ I0 z2 _ hz2 z4 _ hz4 (fun r5 s6 Is6 Gs6 => h_Kv ?_)
  have Zs6 : ∀ i, s6 0 i = s0 0 i := fun i => (Gs6 0 i rfl).trans rfl
  have Fs6 : h_F (fun _ _ => true) s6 s0 := fun _ _ h => by cases h
  have es6_0 : s6 64 1 = s0 64 1 := (Gs6 64 1 rfl).trans rfl
  have es6_1 : s6 98 11 = s0 98 11 := (Gs6 98 11 rfl).trans rfl
  have es6_2 : s6 64 4 = s0 64 4 := (Gs6 64 4 rfl).trans rfl
  have es6_3 : s6 98 16 = s0 98 16 := (Gs6 98 16 rfl).trans rfl
  have es6_4 : s6 63 2 = s0 63 2 := (Gs6 63 2 rfl).trans rfl
  have es6_5 : s6 10 8 = s0 10 8 := (Gs6 10 8 rfl).trans rfl
  have es6_6 : s6 98 1 = s0 98 1 := (Gs6 98 1 rfl).trans rfl
  have es6_7 : s6 10 9 = s0 10 9 := (Gs6 10 9 rfl).trans rfl
  have es6_8 : s6 98 2 = s0 98 2 := (Gs6 98 2 rfl).trans rfl
  have es6_9 : s6 10 10 = s0 10 10 := (Gs6 10 10 rfl).trans rfl
  have es6_10 : s6 99 43 = s0 99 43 := (Gs6 99 43 rfl).trans rfl
  have es6_11 : s6 13 2 = s0 13 2 := (Gs6 13 2 rfl).trans rfl
  have es6_12 : s6 99 18 = s0 99 18 := (Gs6 99 18 rfl).trans rfl
  have es6_13 : s6 16 2 = s0 16 2 := (Gs6 16 2 rfl).trans rfl
  have es6_14 : s6 99 25 = s0 99 25 := (Gs6 99 25 rfl).trans rfl
  have es6_15 : s6 62 0 = s0 62 0 := (Gs6 62 0 rfl).trans rfl
  have es6_16 : s6 110 0 = s0 110 0 := (Gs6 110 0 rfl).trans rfl
  have es6_17 : s6 62 1 = s0 62 1 := (Gs6 62 1 rfl).trans rfl
  have es6_18 : s6 110 1 = s0 110 1 := (Gs6 110 1 rfl).trans rfl
  refine h_pop2 (pc' := 965) rfl rfl rfl ?_
  refine h_aload_n (pc' := 966) rfl rfl rfl ?_
  refine h_aload_n (pc' := 967) rfl rfl rfl ?_
  refine h_iload_n (pc' := 968) rfl rfl rfl ?_
  refine h_iconst (pc' := 969) (x := (Int32.ofInt 1)) rfl rfl rfl ?_
  refine h_iadd (pc' := 970) rfl rfl hy3 ci_1 rfl (by omega) (by omega) (fun z7 hz7 => ?_)
  refine h_iald (pc' := 971) (v := s0 0 (b3 + 1)) rfl rfl rfl hz7 (by omega) (by omega) (Zs6 _) (fun z8 hz8 => ?_)
  have tz8 := h_rgv hz8
  refine h_aload_n (pc' := 972) rfl rfl rfl ?_
  refine h_iload_n (pc' := 973) rfl rfl rfl ?_
  refine h_iconst (pc' := 974) (x := (Int32.ofInt 2)) rfl rfl rfl ?_
  refine h_iadd (pc' := 975) rfl rfl hy3 ci_2 rfl (by omega) (by omega) (fun z9 hz9 => ?_)
  refine h_iald (pc' := 976) (v := s0 0 (b3 + 2)) rfl rfl rfl hz9 (by omega) (by omega) (Zs6 _) (fun z10 hz10 => ?_)
  have tz10 := h_rgv hz10
  refine h_call (sp := false) (pc' := 979) (M := [(0, .ref 98), (1, .int z8), (2, .int z10)]) rfl rfl rfl rfl rfl rfl rfl rfl ?_
  refine w_207_98 _ Is6 z8 _ hz8 z10 _ hz10 (fun r11 s12 Is12 Gs12 => h_Kv ?_)
  have Zs12 : ∀ i, s12 0 i = s0 0 i := fun i => (Gs12 0 i rfl).trans (Zs6 i)
  have Fs12 : h_F (fun _ _ => true) s12 s0 := fun _ _ h => by cases h
  have es12_0 : s12 64 1 = s0 64 1 := (Gs12 64 1 rfl).trans es6_0
  have es12_1 : s12 98 11 = s0 98 11 := (Gs12 98 11 rfl).trans es6_1
  have es12_2 : s12 64 4 = s0 64 4 := (Gs12 64 4 rfl).trans es6_2
  have es12_3 : s12 98 16 = s0 98 16 := (Gs12 98 16 rfl).trans es6_3
  have es12_4 : s12 63 2 = s0 63 2 := (Gs12 63 2 rfl).trans es6_4
  have es12_5 : s12 10 8 = s0 10 8 := (Gs12 10 8 rfl).trans es6_5
  have es12_6 : s12 98 1 = s0 98 1 := (Gs12 98 1 rfl).trans es6_6
  have es12_7 : s12 10 9 = s0 10 9 := (Gs12 10 9 rfl).trans es6_7
  have es12_8 : s12 98 2 = s0 98 2 := (Gs12 98 2 rfl).trans es6_8
  have es12_9 : s12 10 10 = s0 10 10 := (Gs12 10 10 rfl).trans es6_9
  have es12_10 : s12 99 43 = s0 99 43 := (Gs12 99 43 rfl).trans es6_10
  have es12_11 : s12 13 2 = s0 13 2 := (Gs12 13 2 rfl).trans es6_11
  have es12_12 : s12 99 18 = s0 99 18 := (Gs12 99 18 rfl).trans es6_12
  have es12_13 : s12 16 2 = s0 16 2 := (Gs12 16 2 rfl).trans es6_13
  have es12_14 : s12 99 25 = s0 99 25 := (Gs12 99 25 rfl).trans es6_14
  have es12_15 : s12 62 0 = s0 62 0 := (Gs12 62 0 rfl).trans es6_15
  have es12_16 : s12 110 0 = s0 110 0 := (Gs12 110 0 rfl).trans es6_16
  have es12_17 : s12 62 1 = s0 62 1 := (Gs12 62 1 rfl).trans es6_17
  have es12_18 : s12 110 1 = s0 110 1 := (Gs12 110 1 rfl).trans es6_18
  clear es6_0 es6_1 es6_10 es6_11 es6_12 es6_13 es6_14 es6_15 es6_16 es6_17 es6_18 es6_2 es6_3 es6_4 es6_5 es6_6 es6_7 es6_8 es6_9
  refine h_pop2 (pc' := 980) rfl rfl rfl ?_
  refine h_goto (pc' := 1441) rfl rfl ?_
  exact kk _ Is12 (by first | exact d_tape.le j0 (Int.le_antisymm (by omega) (by omega)) (by omega) (fun j => (Gs12 65 j rfl).trans ((Gs6 65 j rfl))) (fun j => (Gs12 102 j rfl).trans ((Gs6 102 j rfl))) | (exfalso; omega)) (Int.le_antisymm (by omega) (by omega)) (c_R.fr (c_R.fr j2 I0 Gs6 rfl) Is6 Gs12 rfl)
set_option maxHeartbeats 100000000 in
theorem g_case_983 {ns : Nat} (hns : ns ≤ 320) (s0 : h_S) (I0 : h_I s0) (j0 : d_tape s0 s0) (j1 : s0 64 4 = s0 98 16) (j2 : c_R false s0) (y3 : Int32) (b3 : Int) (hy3 : y3.toInt = b3) (hr : 0 ≤ b3 ∧ b3 + 5 ≤ ns) {Q : Option Value → h_S → Prop} (kk : ∀ τ, h_I τ → (d_tape τ τ) → (τ 64 4 = τ 98 16) → (c_R false τ) → h_T g_P (g_Y ns) 225 1441 [(0, .ref 0), (1, .ref 9), (2, .ref 98), (3, .int y3)] [] τ Q) : h_T g_P (g_Y ns) 225 983 [(0, .ref 0), (1, .ref 9), (2, .ref 98), (3, .int y3)] [] s0 Q := by
  have F0_ : h_F (fun _ _ => true) s0 s0 := h_F.rf
  have j0_ := j0.2
  have i0 := tf_64_1 I0
  have i1 := tf_98_11 I0
  have i2 := tf_64_4 I0
  have i3 := tf_98_16 I0
  have i4 := tf_63_2 I0
  have i5 := tf_10_8 I0
  have i6 := tf_98_1 I0
  have i7 := tf_10_9 I0
  have i8 := tf_98_2 I0
  have i9 := tf_10_10 I0
  have i11 := tf_13_2 I0
  have i13 := tf_16_2 I0
  have j2_ := j2.sz
  have j2i := j2.2.2.1
  have y43 := ty_99_10 I0 43 (by omega)
  have y18 := ty_99_3 I0 18 (by omega)
  have y25 := ty_99_5 I0 25 (by omega)
  have y62_0 := ty_62 I0 0
  have y62_1 := ty_62 I0 1
  have y110_0 := ty_110 I0 0
  have y110_1 := ty_110 I0 1
  refine h_aload_n (pc' := 984) rfl rfl rfl ?_
  refine h_aload_n (pc' := 985) rfl rfl rfl ?_
  refine h_iload_n (pc' := 986) rfl rfl rfl ?_
  refine h_iconst (pc' := 987) (x := (Int32.ofInt 1)) rfl rfl rfl ?_
  refine h_iadd (pc' := 988) rfl rfl hy3 ci_1 rfl (by omega) (by omega) (fun z1 hz1 => ?_)
  refine h_iald (pc' := 989) (v := s0 0 (b3 + 1)) rfl rfl rfl hz1 (by omega) (by omega) rfl (fun z2 hz2 => ?_)
  have tz2 := h_rgv hz2
  refine h_aload_n (pc' := 990) rfl rfl rfl ?_
  refine h_iload_n (pc' := 991) rfl rfl rfl ?_
  refine h_iconst (pc' := 992) (x := (Int32.ofInt 2)) rfl rfl rfl ?_
  refine h_iadd (pc' := 993) rfl rfl hy3 ci_2 rfl (by omega) (by omega) (fun z3 hz3 => ?_)
  refine h_iald (pc' := 994) (v := s0 0 (b3 + 2)) rfl rfl rfl hz3 (by omega) (by omega) rfl (fun z4 hz4 => ?_)
  have tz4 := h_rgv hz4
  refine h_aload_n (pc' := 995) rfl rfl rfl ?_
  refine h_iload_n (pc' := 996) rfl rfl rfl ?_
  refine h_iconst (pc' := 997) (x := (Int32.ofInt 3)) rfl rfl rfl ?_
  refine h_iadd (pc' := 998) rfl rfl hy3 ci_3 rfl (by omega) (by omega) (fun z5 hz5 => ?_)
  refine h_iald (pc' := 999) (v := s0 0 (b3 + 3)) rfl rfl rfl hz5 (by omega) (by omega) rfl (fun z6 hz6 => ?_)
  have tz6 := h_rgv hz6
  refine h_call (sp := false) (pc' := 1002) (M := [(0, .ref 9), (1, .int z2), (2, .int z4), (3, .int z6)]) rfl rfl rfl rfl rfl rfl rfl rfl ?_
  refine w_109_9 _ I0 z2 _ hz2 z4 _ hz4 z6 _ hz6 (fun r7 s8 Is8 Gs8 => h_Kv ?_)
  have Zs8 : ∀ i, s8 0 i = s0 0 i := fun i => (Gs8 0 i rfl).trans rfl
  have Fs8 : h_F (fun _ _ => true) s8 s0 := fun _ _ h => by cases h
  have es8_0 : s8 64 1 = s0 64 1 := (Gs8 64 1 rfl).trans rfl
  have es8_1 : s8 98 11 = s0 98 11 := (Gs8 98 11 rfl).trans rfl
  have es8_2 : s8 64 4 = s0 64 4 := (Gs8 64 4 rfl).trans rfl
  have es8_3 : s8 98 16 = s0 98 16 := (Gs8 98 16 rfl).trans rfl
  have es8_4 : s8 63 2 = s0 63 2 := (Gs8 63 2 rfl).trans rfl
  have es8_5 : s8 10 8 = s0 10 8 := (Gs8 10 8 rfl).trans rfl
  have es8_6 : s8 98 1 = s0 98 1 := (Gs8 98 1 rfl).trans rfl
  have es8_7 : s8 10 9 = s0 10 9 := (Gs8 10 9 rfl).trans rfl
  have es8_8 : s8 98 2 = s0 98 2 := (Gs8 98 2 rfl).trans rfl
  have es8_9 : s8 10 10 = s0 10 10 := (Gs8 10 10 rfl).trans rfl
  have es8_10 : s8 99 43 = s0 99 43 := (Gs8 99 43 rfl).trans rfl
  have es8_11 : s8 13 2 = s0 13 2 := (Gs8 13 2 rfl).trans rfl
  have es8_12 : s8 99 18 = s0 99 18 := (Gs8 99 18 rfl).trans rfl
  have es8_13 : s8 16 2 = s0 16 2 := (Gs8 16 2 rfl).trans rfl
  have es8_14 : s8 99 25 = s0 99 25 := (Gs8 99 25 rfl).trans rfl
  have es8_15 : s8 62 0 = s0 62 0 := (Gs8 62 0 rfl).trans rfl
  have es8_16 : s8 110 0 = s0 110 0 := (Gs8 110 0 rfl).trans rfl
  have es8_17 : s8 62 1 = s0 62 1 := (Gs8 62 1 rfl).trans rfl
  have es8_18 : s8 110 1 = s0 110 1 := (Gs8 110 1 rfl).trans rfl
  refine h_pop2 (pc' := 1003) rfl rfl rfl ?_
  refine h_aload_n (pc' := 1004) rfl rfl rfl ?_
  refine h_aload_n (pc' := 1005) rfl rfl rfl ?_
  refine h_iload_n (pc' := 1006) rfl rfl rfl ?_
  refine h_iconst (pc' := 1007) (x := (Int32.ofInt 1)) rfl rfl rfl ?_
  refine h_iadd (pc' := 1008) rfl rfl hy3 ci_1 rfl (by omega) (by omega) (fun z9 hz9 => ?_)
  refine h_iald (pc' := 1009) (v := s0 0 (b3 + 1)) rfl rfl rfl hz9 (by omega) (by omega) (Zs8 _) (fun z10 hz10 => ?_)
  have tz10 := h_rgv hz10
  refine h_aload_n (pc' := 1010) rfl rfl rfl ?_
  refine h_iload_n (pc' := 1011) rfl rfl rfl ?_
  refine h_iconst (pc' := 1012) (x := (Int32.ofInt 2)) rfl rfl rfl ?_
  refine h_iadd (pc' := 1013) rfl rfl hy3 ci_2 rfl (by omega) (by omega) (fun z11 hz11 => ?_)
  refine h_iald (pc' := 1014) (v := s0 0 (b3 + 2)) rfl rfl rfl hz11 (by omega) (by omega) (Zs8 _) (fun z12 hz12 => ?_)
  have tz12 := h_rgv hz12
  refine h_aload_n (pc' := 1015) rfl rfl rfl ?_
  refine h_iload_n (pc' := 1016) rfl rfl rfl ?_
  refine h_iconst (pc' := 1017) (x := (Int32.ofInt 3)) rfl rfl rfl ?_
  refine h_iadd (pc' := 1018) rfl rfl hy3 ci_3 rfl (by omega) (by omega) (fun z13 hz13 => ?_)
  refine h_iald (pc' := 1019) (v := s0 0 (b3 + 3)) rfl rfl rfl hz13 (by omega) (by omega) (Zs8 _) (fun z14 hz14 => ?_)
  have tz14 := h_rgv hz14
  refine h_call (sp := false) (pc' := 1022) (M := [(0, .ref 98), (1, .int z10), (2, .int z12), (3, .int z14)]) rfl rfl rfl rfl rfl rfl rfl rfl ?_
  refine w_208_98 _ Is8 z10 _ hz10 z12 _ hz12 z14 _ hz14 (fun r15 s16 Is16 Gs16 => h_Kv ?_)
  have Zs16 : ∀ i, s16 0 i = s0 0 i := fun i => (Gs16 0 i rfl).trans (Zs8 i)
  have Fs16 : h_F (fun _ _ => true) s16 s0 := fun _ _ h => by cases h
  have es16_0 : s16 64 1 = s0 64 1 := (Gs16 64 1 rfl).trans es8_0
  have es16_1 : s16 98 11 = s0 98 11 := (Gs16 98 11 rfl).trans es8_1
  have es16_2 : s16 64 4 = s0 64 4 := (Gs16 64 4 rfl).trans es8_2
  have es16_3 : s16 98 16 = s0 98 16 := (Gs16 98 16 rfl).trans es8_3
  have es16_4 : s16 63 2 = s0 63 2 := (Gs16 63 2 rfl).trans es8_4
  have es16_5 : s16 10 8 = s0 10 8 := (Gs16 10 8 rfl).trans es8_5
  have es16_6 : s16 98 1 = s0 98 1 := (Gs16 98 1 rfl).trans es8_6
  have es16_7 : s16 10 9 = s0 10 9 := (Gs16 10 9 rfl).trans es8_7
  have es16_8 : s16 98 2 = s0 98 2 := (Gs16 98 2 rfl).trans es8_8
  have es16_9 : s16 10 10 = s0 10 10 := (Gs16 10 10 rfl).trans es8_9
  have es16_10 : s16 99 43 = s0 99 43 := (Gs16 99 43 rfl).trans es8_10
  have es16_11 : s16 13 2 = s0 13 2 := (Gs16 13 2 rfl).trans es8_11
  have es16_12 : s16 99 18 = s0 99 18 := (Gs16 99 18 rfl).trans es8_12
  have es16_13 : s16 16 2 = s0 16 2 := (Gs16 16 2 rfl).trans es8_13
  have es16_14 : s16 99 25 = s0 99 25 := (Gs16 99 25 rfl).trans es8_14
  have es16_15 : s16 62 0 = s0 62 0 := (Gs16 62 0 rfl).trans es8_15
  have es16_16 : s16 110 0 = s0 110 0 := (Gs16 110 0 rfl).trans es8_16
  have es16_17 : s16 62 1 = s0 62 1 := (Gs16 62 1 rfl).trans es8_17
  have es16_18 : s16 110 1 = s0 110 1 := (Gs16 110 1 rfl).trans es8_18
  clear es8_0 es8_1 es8_10 es8_11 es8_12 es8_13 es8_14 es8_15 es8_16 es8_17 es8_18 es8_2 es8_3 es8_4 es8_5 es8_6 es8_7 es8_8 es8_9
  refine h_pop2 (pc' := 1023) rfl rfl rfl ?_
  refine h_goto (pc' := 1441) rfl rfl ?_
  exact kk _ Is16 (by first | exact d_tape.le j0 (Int.le_antisymm (by omega) (by omega)) (by omega) (fun j => (Gs16 65 j rfl).trans ((Gs8 65 j rfl))) (fun j => (Gs16 102 j rfl).trans ((Gs8 102 j rfl))) | (exfalso; omega)) (Int.le_antisymm (by omega) (by omega)) (c_R.fr (c_R.fr j2 I0 Gs8 rfl) Is8 Gs16 rfl)
set_option maxHeartbeats 100000000 in
theorem g_case_1026 {ns : Nat} (hns : ns ≤ 320) (s0 : h_S) (I0 : h_I s0) (j0 : d_tape s0 s0) (j1 : s0 64 4 = s0 98 16) (j2 : c_R false s0) (y3 : Int32) (b3 : Int) (hy3 : y3.toInt = b3) (hr : 0 ≤ b3 ∧ b3 + 5 ≤ ns) {Q : Option Value → h_S → Prop} (kk : ∀ τ, h_I τ → (d_tape τ τ) → (τ 64 4 = τ 98 16) → (c_R false τ) → h_T g_P (g_Y ns) 225 1441 [(0, .ref 0), (1, .ref 9), (2, .ref 98), (3, .int y3)] [] τ Q) : h_T g_P (g_Y ns) 225 1026 [(0, .ref 0), (1, .ref 9), (2, .ref 98), (3, .int y3)] [] s0 Q := by
  have F0_ : h_F (fun _ _ => true) s0 s0 := h_F.rf
  have j0_ := j0.2
  have i0 := tf_64_1 I0
  have i1 := tf_98_11 I0
  have i2 := tf_64_4 I0
  have i3 := tf_98_16 I0
  have i4 := tf_63_2 I0
  have i5 := tf_10_8 I0
  have i6 := tf_98_1 I0
  have i7 := tf_10_9 I0
  have i8 := tf_98_2 I0
  have i9 := tf_10_10 I0
  have i11 := tf_13_2 I0
  have i13 := tf_16_2 I0
  have j2_ := j2.sz
  have j2i := j2.2.2.1
  have y43 := ty_99_10 I0 43 (by omega)
  have y18 := ty_99_3 I0 18 (by omega)
  have y25 := ty_99_5 I0 25 (by omega)
  have y62_0 := ty_62 I0 0
  have y62_1 := ty_62 I0 1
  have y110_0 := ty_110 I0 0
  have y110_1 := ty_110 I0 1
  refine h_aload_n (pc' := 1027) rfl rfl rfl ?_
  refine h_aload_n (pc' := 1028) rfl rfl rfl ?_
  refine h_iload_n (pc' := 1029) rfl rfl rfl ?_
  refine h_iconst (pc' := 1030) (x := (Int32.ofInt 1)) rfl rfl rfl ?_
  refine h_iadd (pc' := 1031) rfl rfl hy3 ci_1 rfl (by omega) (by omega) (fun z1 hz1 => ?_)
  refine h_iald (pc' := 1032) (v := s0 0 (b3 + 1)) rfl rfl rfl hz1 (by omega) (by omega) rfl (fun z2 hz2 => ?_)
  have tz2 := h_rgv hz2
  refine h_aload_n (pc' := 1033) rfl rfl rfl ?_
  refine h_iload_n (pc' := 1034) rfl rfl rfl ?_
  refine h_iconst (pc' := 1035) (x := (Int32.ofInt 2)) rfl rfl rfl ?_
  refine h_iadd (pc' := 1036) rfl rfl hy3 ci_2 rfl (by omega) (by omega) (fun z3 hz3 => ?_)
  refine h_iald (pc' := 1037) (v := s0 0 (b3 + 2)) rfl rfl rfl hz3 (by omega) (by omega) rfl (fun z4 hz4 => ?_)
  have tz4 := h_rgv hz4
  refine h_zeq (tg := 1044) (pc' := 1040) rfl rfl rfl hz4 (fun c5 => ?_) (fun c5 => ?_)
  · refine h_iconst (pc' := 1045) (x := (Int32.ofInt 0)) rfl rfl rfl ?_
    refine h_call (sp := false) (pc' := 1048) (M := [(0, .ref 9), (1, .int z2), (2, .int (Int32.ofInt 0))]) rfl rfl rfl rfl rfl rfl rfl rfl ?_
    refine w_110_9 _ I0 z2 _ hz2 (Int32.ofInt 0) _ ci_0 (by omega) (fun r6 br6 hr6 s7 Is7 Gs7 tr6 => h_Kv ?_)
    have Zs7 : ∀ i, s7 0 i = s0 0 i := fun i => (Gs7 0 i rfl).trans rfl
    have Fs7 : h_F (fun _ _ => true) s7 s0 := fun _ _ h => by cases h
    have es7_0 : s7 64 1 = s0 64 1 := (Gs7 64 1 rfl).trans rfl
    have es7_1 : s7 98 11 = s0 98 11 := (Gs7 98 11 rfl).trans rfl
    have es7_2 : s7 64 4 = s0 64 4 := (Gs7 64 4 rfl).trans rfl
    have es7_3 : s7 98 16 = s0 98 16 := (Gs7 98 16 rfl).trans rfl
    have es7_4 : s7 63 2 = s0 63 2 := (Gs7 63 2 rfl).trans rfl
    have es7_5 : s7 10 8 = s0 10 8 := (Gs7 10 8 rfl).trans rfl
    have es7_6 : s7 98 1 = s0 98 1 := (Gs7 98 1 rfl).trans rfl
    have es7_7 : s7 10 9 = s0 10 9 := (Gs7 10 9 rfl).trans rfl
    have es7_8 : s7 98 2 = s0 98 2 := (Gs7 98 2 rfl).trans rfl
    have es7_9 : s7 10 10 = s0 10 10 := (Gs7 10 10 rfl).trans rfl
    have es7_10 : s7 99 43 = s0 99 43 := (Gs7 99 43 rfl).trans rfl
    have es7_11 : s7 13 2 = s0 13 2 := (Gs7 13 2 rfl).trans rfl
    have es7_12 : s7 99 18 = s0 99 18 := (Gs7 99 18 rfl).trans rfl
    have es7_13 : s7 16 2 = s0 16 2 := (Gs7 16 2 rfl).trans rfl
    have es7_14 : s7 99 25 = s0 99 25 := (Gs7 99 25 rfl).trans rfl
    have es7_15 : s7 62 0 = s0 62 0 := (Gs7 62 0 rfl).trans rfl
    have es7_16 : s7 110 0 = s0 110 0 := (Gs7 110 0 rfl).trans rfl
    have es7_17 : s7 62 1 = s0 62 1 := (Gs7 62 1 rfl).trans rfl
    have es7_18 : s7 110 1 = s0 110 1 := (Gs7 110 1 rfl).trans rfl
    refine h_pop (pc' := 1049) rfl rfl rfl ?_
    refine h_aload_n (pc' := 1050) rfl rfl rfl ?_
    refine h_aload_n (pc' := 1051) rfl rfl rfl ?_
    refine h_iload_n (pc' := 1052) rfl rfl rfl ?_
    refine h_iconst (pc' := 1053) (x := (Int32.ofInt 1)) rfl rfl rfl ?_
    refine h_iadd (pc' := 1054) rfl rfl hy3 ci_1 rfl (by omega) (by omega) (fun z8 hz8 => ?_)
    refine h_iald (pc' := 1055) (v := s0 0 (b3 + 1)) rfl rfl rfl hz8 (by omega) (by omega) (Zs7 _) (fun z9 hz9 => ?_)
    have tz9 := h_rgv hz9
    refine h_aload_n (pc' := 1056) rfl rfl rfl ?_
    refine h_iload_n (pc' := 1057) rfl rfl rfl ?_
    refine h_iconst (pc' := 1058) (x := (Int32.ofInt 2)) rfl rfl rfl ?_
    refine h_iadd (pc' := 1059) rfl rfl hy3 ci_2 rfl (by omega) (by omega) (fun z10 hz10 => ?_)
    refine h_iald (pc' := 1060) (v := s0 0 (b3 + 2)) rfl rfl rfl hz10 (by omega) (by omega) (Zs7 _) (fun z11 hz11 => ?_)
    have tz11 := h_rgv hz11
    refine h_zeq (tg := 1067) (pc' := 1063) rfl rfl rfl hz11 (fun c12 => ?_) (fun c12 => absurd (Int.le_antisymm (by omega) (by omega)) c12)
    refine h_iconst (pc' := 1068) (x := (Int32.ofInt 0)) rfl rfl rfl ?_
    refine h_call (sp := false) (pc' := 1071) (M := [(0, .ref 98), (1, .int z9), (2, .int (Int32.ofInt 0))]) rfl rfl rfl rfl rfl rfl rfl rfl ?_
    refine w_209_98 _ Is7 z9 _ hz9 (Int32.ofInt 0) _ ci_0 (by omega) (fun r13 br13 hr13 s14 Is14 Gs14 tr13 => h_Kv ?_)
    have Zs14 : ∀ i, s14 0 i = s0 0 i := fun i => (Gs14 0 i rfl).trans (Zs7 i)
    have Fs14 : h_F (fun _ _ => true) s14 s0 := fun _ _ h => by cases h
    have es14_0 : s14 64 1 = s0 64 1 := (Gs14 64 1 rfl).trans es7_0
    have es14_1 : s14 98 11 = s0 98 11 := (Gs14 98 11 rfl).trans es7_1
    have es14_2 : s14 64 4 = s0 64 4 := (Gs14 64 4 rfl).trans es7_2
    have es14_3 : s14 98 16 = s0 98 16 := (Gs14 98 16 rfl).trans es7_3
    have es14_4 : s14 63 2 = s0 63 2 := (Gs14 63 2 rfl).trans es7_4
    have es14_5 : s14 10 8 = s0 10 8 := (Gs14 10 8 rfl).trans es7_5
    have es14_6 : s14 98 1 = s0 98 1 := (Gs14 98 1 rfl).trans es7_6
    have es14_7 : s14 10 9 = s0 10 9 := (Gs14 10 9 rfl).trans es7_7
    have es14_8 : s14 98 2 = s0 98 2 := (Gs14 98 2 rfl).trans es7_8
    have es14_9 : s14 10 10 = s0 10 10 := (Gs14 10 10 rfl).trans es7_9
    have es14_10 : s14 99 43 = s0 99 43 := (Gs14 99 43 rfl).trans es7_10
    have es14_11 : s14 13 2 = s0 13 2 := (Gs14 13 2 rfl).trans es7_11
    have es14_12 : s14 99 18 = s0 99 18 := (Gs14 99 18 rfl).trans es7_12
    have es14_13 : s14 16 2 = s0 16 2 := (Gs14 16 2 rfl).trans es7_13
    have es14_14 : s14 99 25 = s0 99 25 := (Gs14 99 25 rfl).trans es7_14
    have es14_15 : s14 62 0 = s0 62 0 := (Gs14 62 0 rfl).trans es7_15
    have es14_16 : s14 110 0 = s0 110 0 := (Gs14 110 0 rfl).trans es7_16
    have es14_17 : s14 62 1 = s0 62 1 := (Gs14 62 1 rfl).trans es7_17
    have es14_18 : s14 110 1 = s0 110 1 := (Gs14 110 1 rfl).trans es7_18
    clear es7_0 es7_1 es7_10 es7_11 es7_12 es7_13 es7_14 es7_15 es7_16 es7_17 es7_18 es7_2 es7_3 es7_4 es7_5 es7_6 es7_7 es7_8 es7_9
    refine h_pop (pc' := 1072) rfl rfl rfl ?_
    refine h_goto (pc' := 1441) rfl rfl ?_
    exact kk _ Is14 (by first | exact d_tape.le j0 (Int.le_antisymm (by omega) (by omega)) (by omega) (fun j => (Gs14 65 j rfl).trans ((Gs7 65 j rfl))) (fun j => (Gs14 102 j rfl).trans ((Gs7 102 j rfl))) | (exfalso; omega)) (Int.le_antisymm (by omega) (by omega)) (c_R.fr (c_R.fr j2 I0 Gs7 rfl) Is7 Gs14 rfl)
  · refine h_iconst (pc' := 1041) (x := (Int32.ofInt 1)) rfl rfl rfl ?_
    refine h_goto (pc' := 1045) rfl rfl ?_
    refine h_call (sp := false) (pc' := 1048) (M := [(0, .ref 9), (1, .int z2), (2, .int (Int32.ofInt 1))]) rfl rfl rfl rfl rfl rfl rfl rfl ?_
    refine w_110_9 _ I0 z2 _ hz2 (Int32.ofInt 1) _ ci_1 (by omega) (fun r15 br15 hr15 s16 Is16 Gs16 tr15 => h_Kv ?_)
    have Zs16 : ∀ i, s16 0 i = s0 0 i := fun i => (Gs16 0 i rfl).trans rfl
    have Fs16 : h_F (fun _ _ => true) s16 s0 := fun _ _ h => by cases h
    have es16_0 : s16 64 1 = s0 64 1 := (Gs16 64 1 rfl).trans rfl
    have es16_1 : s16 98 11 = s0 98 11 := (Gs16 98 11 rfl).trans rfl
    have es16_2 : s16 64 4 = s0 64 4 := (Gs16 64 4 rfl).trans rfl
    have es16_3 : s16 98 16 = s0 98 16 := (Gs16 98 16 rfl).trans rfl
    have es16_4 : s16 63 2 = s0 63 2 := (Gs16 63 2 rfl).trans rfl
    have es16_5 : s16 10 8 = s0 10 8 := (Gs16 10 8 rfl).trans rfl
    have es16_6 : s16 98 1 = s0 98 1 := (Gs16 98 1 rfl).trans rfl
    have es16_7 : s16 10 9 = s0 10 9 := (Gs16 10 9 rfl).trans rfl
    have es16_8 : s16 98 2 = s0 98 2 := (Gs16 98 2 rfl).trans rfl
    have es16_9 : s16 10 10 = s0 10 10 := (Gs16 10 10 rfl).trans rfl
    have es16_10 : s16 99 43 = s0 99 43 := (Gs16 99 43 rfl).trans rfl
    have es16_11 : s16 13 2 = s0 13 2 := (Gs16 13 2 rfl).trans rfl
    have es16_12 : s16 99 18 = s0 99 18 := (Gs16 99 18 rfl).trans rfl
    have es16_13 : s16 16 2 = s0 16 2 := (Gs16 16 2 rfl).trans rfl
    have es16_14 : s16 99 25 = s0 99 25 := (Gs16 99 25 rfl).trans rfl
    have es16_15 : s16 62 0 = s0 62 0 := (Gs16 62 0 rfl).trans rfl
    have es16_16 : s16 110 0 = s0 110 0 := (Gs16 110 0 rfl).trans rfl
    have es16_17 : s16 62 1 = s0 62 1 := (Gs16 62 1 rfl).trans rfl
    have es16_18 : s16 110 1 = s0 110 1 := (Gs16 110 1 rfl).trans rfl
    refine h_pop (pc' := 1049) rfl rfl rfl ?_
    refine h_aload_n (pc' := 1050) rfl rfl rfl ?_
    refine h_aload_n (pc' := 1051) rfl rfl rfl ?_
    refine h_iload_n (pc' := 1052) rfl rfl rfl ?_
    refine h_iconst (pc' := 1053) (x := (Int32.ofInt 1)) rfl rfl rfl ?_
    refine h_iadd (pc' := 1054) rfl rfl hy3 ci_1 rfl (by omega) (by omega) (fun z17 hz17 => ?_)
    refine h_iald (pc' := 1055) (v := s0 0 (b3 + 1)) rfl rfl rfl hz17 (by omega) (by omega) (Zs16 _) (fun z18 hz18 => ?_)
    have tz18 := h_rgv hz18
    refine h_aload_n (pc' := 1056) rfl rfl rfl ?_
    refine h_iload_n (pc' := 1057) rfl rfl rfl ?_
    refine h_iconst (pc' := 1058) (x := (Int32.ofInt 2)) rfl rfl rfl ?_
    refine h_iadd (pc' := 1059) rfl rfl hy3 ci_2 rfl (by omega) (by omega) (fun z19 hz19 => ?_)
    refine h_iald (pc' := 1060) (v := s0 0 (b3 + 2)) rfl rfl rfl hz19 (by omega) (by omega) (Zs16 _) (fun z20 hz20 => ?_)
    have tz20 := h_rgv hz20
    refine h_zeq (tg := 1067) (pc' := 1063) rfl rfl rfl hz20 (fun c21 => absurd c21 (by omega)) (fun c21 => ?_)
    refine h_iconst (pc' := 1064) (x := (Int32.ofInt 1)) rfl rfl rfl ?_
    refine h_goto (pc' := 1068) rfl rfl ?_
    refine h_call (sp := false) (pc' := 1071) (M := [(0, .ref 98), (1, .int z18), (2, .int (Int32.ofInt 1))]) rfl rfl rfl rfl rfl rfl rfl rfl ?_
    refine w_209_98 _ Is16 z18 _ hz18 (Int32.ofInt 1) _ ci_1 (by omega) (fun r22 br22 hr22 s23 Is23 Gs23 tr22 => h_Kv ?_)
    have Zs23 : ∀ i, s23 0 i = s0 0 i := fun i => (Gs23 0 i rfl).trans (Zs16 i)
    have Fs23 : h_F (fun _ _ => true) s23 s0 := fun _ _ h => by cases h
    have es23_0 : s23 64 1 = s0 64 1 := (Gs23 64 1 rfl).trans es16_0
    have es23_1 : s23 98 11 = s0 98 11 := (Gs23 98 11 rfl).trans es16_1
    have es23_2 : s23 64 4 = s0 64 4 := (Gs23 64 4 rfl).trans es16_2
    have es23_3 : s23 98 16 = s0 98 16 := (Gs23 98 16 rfl).trans es16_3
    have es23_4 : s23 63 2 = s0 63 2 := (Gs23 63 2 rfl).trans es16_4
    have es23_5 : s23 10 8 = s0 10 8 := (Gs23 10 8 rfl).trans es16_5
    have es23_6 : s23 98 1 = s0 98 1 := (Gs23 98 1 rfl).trans es16_6
    have es23_7 : s23 10 9 = s0 10 9 := (Gs23 10 9 rfl).trans es16_7
    have es23_8 : s23 98 2 = s0 98 2 := (Gs23 98 2 rfl).trans es16_8
    have es23_9 : s23 10 10 = s0 10 10 := (Gs23 10 10 rfl).trans es16_9
    have es23_10 : s23 99 43 = s0 99 43 := (Gs23 99 43 rfl).trans es16_10
    have es23_11 : s23 13 2 = s0 13 2 := (Gs23 13 2 rfl).trans es16_11
    have es23_12 : s23 99 18 = s0 99 18 := (Gs23 99 18 rfl).trans es16_12
    have es23_13 : s23 16 2 = s0 16 2 := (Gs23 16 2 rfl).trans es16_13
    have es23_14 : s23 99 25 = s0 99 25 := (Gs23 99 25 rfl).trans es16_14
    have es23_15 : s23 62 0 = s0 62 0 := (Gs23 62 0 rfl).trans es16_15
    have es23_16 : s23 110 0 = s0 110 0 := (Gs23 110 0 rfl).trans es16_16
    have es23_17 : s23 62 1 = s0 62 1 := (Gs23 62 1 rfl).trans es16_17
    have es23_18 : s23 110 1 = s0 110 1 := (Gs23 110 1 rfl).trans es16_18
    clear es16_0 es16_1 es16_10 es16_11 es16_12 es16_13 es16_14 es16_15 es16_16 es16_17 es16_18 es16_2 es16_3 es16_4 es16_5 es16_6 es16_7 es16_8 es16_9
    refine h_pop (pc' := 1072) rfl rfl rfl ?_
    refine h_goto (pc' := 1441) rfl rfl ?_
    exact kk _ Is23 (by first | exact d_tape.le j0 (Int.le_antisymm (by omega) (by omega)) (by omega) (fun j => (Gs23 65 j rfl).trans ((Gs16 65 j rfl))) (fun j => (Gs23 102 j rfl).trans ((Gs16 102 j rfl))) | (exfalso; omega)) (Int.le_antisymm (by omega) (by omega)) (c_R.fr (c_R.fr j2 I0 Gs16 rfl) Is16 Gs23 rfl)
set_option maxHeartbeats 100000000 in
theorem g_case_1075 {ns : Nat} (hns : ns ≤ 320) (s0 : h_S) (I0 : h_I s0) (j0 : d_tape s0 s0) (j1 : s0 64 4 = s0 98 16) (j2 : c_R false s0) (y3 : Int32) (b3 : Int) (hy3 : y3.toInt = b3) (hr : 0 ≤ b3 ∧ b3 + 5 ≤ ns) {Q : Option Value → h_S → Prop} (kk : ∀ τ, h_I τ → (d_tape τ τ) → (τ 64 4 = τ 98 16) → (c_R false τ) → h_T g_P (g_Y ns) 225 1441 [(0, .ref 0), (1, .ref 9), (2, .ref 98), (3, .int y3)] [] τ Q) : h_T g_P (g_Y ns) 225 1075 [(0, .ref 0), (1, .ref 9), (2, .ref 98), (3, .int y3)] [] s0 Q := by
  have F0_ : h_F (fun _ _ => true) s0 s0 := h_F.rf
  have j0_ := j0.2
  have i0 := tf_64_1 I0
  have i1 := tf_98_11 I0
  have i2 := tf_64_4 I0
  have i3 := tf_98_16 I0
  have i4 := tf_63_2 I0
  have i5 := tf_10_8 I0
  have i6 := tf_98_1 I0
  have i7 := tf_10_9 I0
  have i8 := tf_98_2 I0
  have i9 := tf_10_10 I0
  have i11 := tf_13_2 I0
  have i13 := tf_16_2 I0
  have j2_ := j2.sz
  have j2i := j2.2.2.1
  have y43 := ty_99_10 I0 43 (by omega)
  have y18 := ty_99_3 I0 18 (by omega)
  have y25 := ty_99_5 I0 25 (by omega)
  have y62_0 := ty_62 I0 0
  have y62_1 := ty_62 I0 1
  have y110_0 := ty_110 I0 0
  have y110_1 := ty_110 I0 1
  refine h_aload_n (pc' := 1076) rfl rfl rfl ?_
  refine h_aload_n (pc' := 1077) rfl rfl rfl ?_
  refine h_iload_n (pc' := 1078) rfl rfl rfl ?_
  refine h_iconst (pc' := 1079) (x := (Int32.ofInt 1)) rfl rfl rfl ?_
  refine h_iadd (pc' := 1080) rfl rfl hy3 ci_1 rfl (by omega) (by omega) (fun z1 hz1 => ?_)
  refine h_iald (pc' := 1081) (v := s0 0 (b3 + 1)) rfl rfl rfl hz1 (by omega) (by omega) rfl (fun z2 hz2 => ?_)
  have tz2 := h_rgv hz2
  refine h_call (sp := false) (pc' := 1084) (M := [(0, .ref 9), (1, .int z2)]) rfl rfl rfl rfl rfl rfl rfl rfl ?_
  refine w_111_9 _ I0 z2 _ hz2 (fun r3 br3 hr3 s4 Is4 Gs4 tr3 => h_Kv ?_)
  have Zs4 : ∀ i, s4 0 i = s0 0 i := fun i => (Gs4 0 i rfl).trans rfl
  have Fs4 : h_F (fun _ _ => true) s4 s0 := fun _ _ h => by cases h
  have es4_0 : s4 64 1 = s0 64 1 := (Gs4 64 1 rfl).trans rfl
  have es4_1 : s4 98 11 = s0 98 11 := (Gs4 98 11 rfl).trans rfl
  have es4_2 : s4 64 4 = s0 64 4 := (Gs4 64 4 rfl).trans rfl
  have es4_3 : s4 98 16 = s0 98 16 := (Gs4 98 16 rfl).trans rfl
  have es4_4 : s4 63 2 = s0 63 2 := (Gs4 63 2 rfl).trans rfl
  have es4_5 : s4 10 8 = s0 10 8 := (Gs4 10 8 rfl).trans rfl
  have es4_6 : s4 98 1 = s0 98 1 := (Gs4 98 1 rfl).trans rfl
  have es4_7 : s4 10 9 = s0 10 9 := (Gs4 10 9 rfl).trans rfl
  have es4_8 : s4 98 2 = s0 98 2 := (Gs4 98 2 rfl).trans rfl
  have es4_9 : s4 10 10 = s0 10 10 := (Gs4 10 10 rfl).trans rfl
  have es4_10 : s4 99 43 = s0 99 43 := (Gs4 99 43 rfl).trans rfl
  have es4_11 : s4 13 2 = s0 13 2 := (Gs4 13 2 rfl).trans rfl
  have es4_12 : s4 99 18 = s0 99 18 := (Gs4 99 18 rfl).trans rfl
  have es4_13 : s4 16 2 = s0 16 2 := (Gs4 16 2 rfl).trans rfl
  have es4_14 : s4 99 25 = s0 99 25 := (Gs4 99 25 rfl).trans rfl
  have es4_15 : s4 62 0 = s0 62 0 := (Gs4 62 0 rfl).trans rfl
  have es4_16 : s4 110 0 = s0 110 0 := (Gs4 110 0 rfl).trans rfl
  have es4_17 : s4 62 1 = s0 62 1 := (Gs4 62 1 rfl).trans rfl
  have es4_18 : s4 110 1 = s0 110 1 := (Gs4 110 1 rfl).trans rfl
  refine h_pop (pc' := 1085) rfl rfl rfl ?_
  refine h_aload_n (pc' := 1086) rfl rfl rfl ?_
  refine h_aload_n (pc' := 1087) rfl rfl rfl ?_
  refine h_iload_n (pc' := 1088) rfl rfl rfl ?_
  refine h_iconst (pc' := 1089) (x := (Int32.ofInt 1)) rfl rfl rfl ?_
  refine h_iadd (pc' := 1090) rfl rfl hy3 ci_1 rfl (by omega) (by omega) (fun z5 hz5 => ?_)
  refine h_iald (pc' := 1091) (v := s0 0 (b3 + 1)) rfl rfl rfl hz5 (by omega) (by omega) (Zs4 _) (fun z6 hz6 => ?_)
  have tz6 := h_rgv hz6
  refine h_call (sp := false) (pc' := 1094) (M := [(0, .ref 98), (1, .int z6)]) rfl rfl rfl rfl rfl rfl rfl rfl ?_
  refine w_210_98 _ Is4 z6 _ hz6 (fun r7 br7 hr7 s8 Is8 Gs8 tr7 => h_Kv ?_)
  have Zs8 : ∀ i, s8 0 i = s0 0 i := fun i => (Gs8 0 i rfl).trans (Zs4 i)
  have Fs8 : h_F (fun _ _ => true) s8 s0 := fun _ _ h => by cases h
  have es8_0 : s8 64 1 = s0 64 1 := (Gs8 64 1 rfl).trans es4_0
  have es8_1 : s8 98 11 = s0 98 11 := (Gs8 98 11 rfl).trans es4_1
  have es8_2 : s8 64 4 = s0 64 4 := (Gs8 64 4 rfl).trans es4_2
  have es8_3 : s8 98 16 = s0 98 16 := (Gs8 98 16 rfl).trans es4_3
  have es8_4 : s8 63 2 = s0 63 2 := (Gs8 63 2 rfl).trans es4_4
  have es8_5 : s8 10 8 = s0 10 8 := (Gs8 10 8 rfl).trans es4_5
  have es8_6 : s8 98 1 = s0 98 1 := (Gs8 98 1 rfl).trans es4_6
  have es8_7 : s8 10 9 = s0 10 9 := (Gs8 10 9 rfl).trans es4_7
  have es8_8 : s8 98 2 = s0 98 2 := (Gs8 98 2 rfl).trans es4_8
  have es8_9 : s8 10 10 = s0 10 10 := (Gs8 10 10 rfl).trans es4_9
  have es8_10 : s8 99 43 = s0 99 43 := (Gs8 99 43 rfl).trans es4_10
  have es8_11 : s8 13 2 = s0 13 2 := (Gs8 13 2 rfl).trans es4_11
  have es8_12 : s8 99 18 = s0 99 18 := (Gs8 99 18 rfl).trans es4_12
  have es8_13 : s8 16 2 = s0 16 2 := (Gs8 16 2 rfl).trans es4_13
  have es8_14 : s8 99 25 = s0 99 25 := (Gs8 99 25 rfl).trans es4_14
  have es8_15 : s8 62 0 = s0 62 0 := (Gs8 62 0 rfl).trans es4_15
  have es8_16 : s8 110 0 = s0 110 0 := (Gs8 110 0 rfl).trans es4_16
  have es8_17 : s8 62 1 = s0 62 1 := (Gs8 62 1 rfl).trans es4_17
  have es8_18 : s8 110 1 = s0 110 1 := (Gs8 110 1 rfl).trans es4_18
  clear es4_0 es4_1 es4_10 es4_11 es4_12 es4_13 es4_14 es4_15 es4_16 es4_17 es4_18 es4_2 es4_3 es4_4 es4_5 es4_6 es4_7 es4_8 es4_9
  refine h_pop (pc' := 1095) rfl rfl rfl ?_
  refine h_goto (pc' := 1441) rfl rfl ?_
  exact kk _ Is8 (by first | exact d_tape.le j0 (Int.le_antisymm (by omega) (by omega)) (by omega) (fun j => (Gs8 65 j rfl).trans ((Gs4 65 j rfl))) (fun j => (Gs8 102 j rfl).trans ((Gs4 102 j rfl))) | (exfalso; omega)) (Int.le_antisymm (by omega) (by omega)) (c_R.fr (c_R.fr j2 I0 Gs4 rfl) Is4 Gs8 rfl)
set_option maxHeartbeats 100000000 in
theorem g_case_1098 {ns : Nat} (hns : ns ≤ 320) (s0 : h_S) (I0 : h_I s0) (j0 : d_tape s0 s0) (j1 : s0 64 4 = s0 98 16) (j2 : c_R false s0) (y3 : Int32) (b3 : Int) (hy3 : y3.toInt = b3) (hr : 0 ≤ b3 ∧ b3 + 5 ≤ ns) {Q : Option Value → h_S → Prop} (kk : ∀ τ, h_I τ → (d_tape τ τ) → (τ 64 4 = τ 98 16) → (c_R false τ) → h_T g_P (g_Y ns) 225 1441 [(0, .ref 0), (1, .ref 9), (2, .ref 98), (3, .int y3)] [] τ Q) : h_T g_P (g_Y ns) 225 1098 [(0, .ref 0), (1, .ref 9), (2, .ref 98), (3, .int y3)] [] s0 Q := by
  have F0_ : h_F (fun _ _ => true) s0 s0 := h_F.rf
  have j0_ := j0.2
  have i0 := tf_64_1 I0
  have i1 := tf_98_11 I0
  have i2 := tf_64_4 I0
  have i3 := tf_98_16 I0
  have i4 := tf_63_2 I0
  have i5 := tf_10_8 I0
  have i6 := tf_98_1 I0
  have i7 := tf_10_9 I0
  have i8 := tf_98_2 I0
  have i9 := tf_10_10 I0
  have i11 := tf_13_2 I0
  have i13 := tf_16_2 I0
  have j2_ := j2.sz
  have j2i := j2.2.2.1
  have y43 := ty_99_10 I0 43 (by omega)
  have y18 := ty_99_3 I0 18 (by omega)
  have y25 := ty_99_5 I0 25 (by omega)
  have y62_0 := ty_62 I0 0
  have y62_1 := ty_62 I0 1
  have y110_0 := ty_110 I0 0
  have y110_1 := ty_110 I0 1
  refine h_aload_n (pc' := 1099) rfl rfl rfl ?_
  refine h_aload_n (pc' := 1100) rfl rfl rfl ?_
  refine h_iload_n (pc' := 1101) rfl rfl rfl ?_
  refine h_iconst (pc' := 1102) (x := (Int32.ofInt 1)) rfl rfl rfl ?_
  refine h_iadd (pc' := 1103) rfl rfl hy3 ci_1 rfl (by omega) (by omega) (fun z1 hz1 => ?_)
  refine h_iald (pc' := 1104) (v := s0 0 (b3 + 1)) rfl rfl rfl hz1 (by omega) (by omega) rfl (fun z2 hz2 => ?_)
  have tz2 := h_rgv hz2
  refine h_call (sp := false) (pc' := 1107) (M := [(0, .ref 9), (1, .int z2)]) rfl rfl rfl rfl rfl rfl rfl rfl ?_
  refine w_112_9 _ I0 z2 _ hz2 (fun r3 br3 hr3 s4 Is4 Gs4 => h_Kv ?_)
  have Zs4 : ∀ i, s4 0 i = s0 0 i := fun i => (Gs4 0 i rfl).trans rfl
  have Fs4 : h_F (fun _ _ => true) s4 s0 := fun _ _ h => by cases h
  have es4_0 : s4 64 1 = s0 64 1 := (Gs4 64 1 rfl).trans rfl
  have es4_1 : s4 98 11 = s0 98 11 := (Gs4 98 11 rfl).trans rfl
  have es4_2 : s4 64 4 = s0 64 4 := (Gs4 64 4 rfl).trans rfl
  have es4_3 : s4 98 16 = s0 98 16 := (Gs4 98 16 rfl).trans rfl
  have es4_4 : s4 63 2 = s0 63 2 := (Gs4 63 2 rfl).trans rfl
  have es4_5 : s4 10 8 = s0 10 8 := (Gs4 10 8 rfl).trans rfl
  have es4_6 : s4 98 1 = s0 98 1 := (Gs4 98 1 rfl).trans rfl
  have es4_7 : s4 10 9 = s0 10 9 := (Gs4 10 9 rfl).trans rfl
  have es4_8 : s4 98 2 = s0 98 2 := (Gs4 98 2 rfl).trans rfl
  have es4_9 : s4 10 10 = s0 10 10 := (Gs4 10 10 rfl).trans rfl
  have es4_10 : s4 99 43 = s0 99 43 := (Gs4 99 43 rfl).trans rfl
  have es4_11 : s4 13 2 = s0 13 2 := (Gs4 13 2 rfl).trans rfl
  have es4_12 : s4 99 18 = s0 99 18 := (Gs4 99 18 rfl).trans rfl
  have es4_13 : s4 16 2 = s0 16 2 := (Gs4 16 2 rfl).trans rfl
  have es4_14 : s4 99 25 = s0 99 25 := (Gs4 99 25 rfl).trans rfl
  have es4_15 : s4 62 0 = s0 62 0 := (Gs4 62 0 rfl).trans rfl
  have es4_16 : s4 110 0 = s0 110 0 := (Gs4 110 0 rfl).trans rfl
  have es4_17 : s4 62 1 = s0 62 1 := (Gs4 62 1 rfl).trans rfl
  have es4_18 : s4 110 1 = s0 110 1 := (Gs4 110 1 rfl).trans rfl
  refine h_pop (pc' := 1108) rfl rfl rfl ?_
  refine h_aload_n (pc' := 1109) rfl rfl rfl ?_
  refine h_aload_n (pc' := 1110) rfl rfl rfl ?_
  refine h_iload_n (pc' := 1111) rfl rfl rfl ?_
  refine h_iconst (pc' := 1112) (x := (Int32.ofInt 1)) rfl rfl rfl ?_
  refine h_iadd (pc' := 1113) rfl rfl hy3 ci_1 rfl (by omega) (by omega) (fun z5 hz5 => ?_)
  refine h_iald (pc' := 1114) (v := s0 0 (b3 + 1)) rfl rfl rfl hz5 (by omega) (by omega) (Zs4 _) (fun z6 hz6 => ?_)
  have tz6 := h_rgv hz6
  refine h_call (sp := false) (pc' := 1117) (M := [(0, .ref 98), (1, .int z6)]) rfl rfl rfl rfl rfl rfl rfl rfl ?_
  refine w_213_98 _ Is4 z6 _ hz6 (fun r7 br7 hr7 s8 Is8 Gs8 => h_Kv ?_)
  have Zs8 : ∀ i, s8 0 i = s0 0 i := fun i => (Gs8 0 i rfl).trans (Zs4 i)
  have Fs8 : h_F (fun _ _ => true) s8 s0 := fun _ _ h => by cases h
  have es8_0 : s8 64 1 = s0 64 1 := (Gs8 64 1 rfl).trans es4_0
  have es8_1 : s8 98 11 = s0 98 11 := (Gs8 98 11 rfl).trans es4_1
  have es8_2 : s8 64 4 = s0 64 4 := (Gs8 64 4 rfl).trans es4_2
  have es8_3 : s8 98 16 = s0 98 16 := (Gs8 98 16 rfl).trans es4_3
  have es8_4 : s8 63 2 = s0 63 2 := (Gs8 63 2 rfl).trans es4_4
  have es8_5 : s8 10 8 = s0 10 8 := (Gs8 10 8 rfl).trans es4_5
  have es8_6 : s8 98 1 = s0 98 1 := (Gs8 98 1 rfl).trans es4_6
  have es8_7 : s8 10 9 = s0 10 9 := (Gs8 10 9 rfl).trans es4_7
  have es8_8 : s8 98 2 = s0 98 2 := (Gs8 98 2 rfl).trans es4_8
  have es8_9 : s8 10 10 = s0 10 10 := (Gs8 10 10 rfl).trans es4_9
  have es8_10 : s8 99 43 = s0 99 43 := (Gs8 99 43 rfl).trans es4_10
  have es8_11 : s8 13 2 = s0 13 2 := (Gs8 13 2 rfl).trans es4_11
  have es8_12 : s8 99 18 = s0 99 18 := (Gs8 99 18 rfl).trans es4_12
  have es8_13 : s8 16 2 = s0 16 2 := (Gs8 16 2 rfl).trans es4_13
  have es8_14 : s8 99 25 = s0 99 25 := (Gs8 99 25 rfl).trans es4_14
  have es8_15 : s8 62 0 = s0 62 0 := (Gs8 62 0 rfl).trans es4_15
  have es8_16 : s8 110 0 = s0 110 0 := (Gs8 110 0 rfl).trans es4_16
  have es8_17 : s8 62 1 = s0 62 1 := (Gs8 62 1 rfl).trans es4_17
  have es8_18 : s8 110 1 = s0 110 1 := (Gs8 110 1 rfl).trans es4_18
  clear es4_0 es4_1 es4_10 es4_11 es4_12 es4_13 es4_14 es4_15 es4_16 es4_17 es4_18 es4_2 es4_3 es4_4 es4_5 es4_6 es4_7 es4_8 es4_9
  refine h_pop (pc' := 1118) rfl rfl rfl ?_
  refine h_goto (pc' := 1441) rfl rfl ?_
  exact kk _ Is8 (by first | exact d_tape.le j0 (Int.le_antisymm (by omega) (by omega)) (by omega) (fun j => (Gs8 65 j rfl).trans ((Gs4 65 j rfl))) (fun j => (Gs8 102 j rfl).trans ((Gs4 102 j rfl))) | (exfalso; omega)) (Int.le_antisymm (by omega) (by omega)) (c_R.fr (c_R.fr j2 I0 Gs4 rfl) Is4 Gs8 rfl)
set_option maxHeartbeats 100000000 in
theorem g_case_1121 {ns : Nat} (hns : ns ≤ 320) (s0 : h_S) (I0 : h_I s0) (j0 : d_tape s0 s0) (j1 : s0 64 4 = s0 98 16) (j2 : c_R false s0) (y3 : Int32) (b3 : Int) (hy3 : y3.toInt = b3) (hr : 0 ≤ b3 ∧ b3 + 5 ≤ ns) {Q : Option Value → h_S → Prop} (kk : ∀ τ, h_I τ → (d_tape τ τ) → (τ 64 4 = τ 98 16) → (c_R false τ) → h_T g_P (g_Y ns) 225 1441 [(0, .ref 0), (1, .ref 9), (2, .ref 98), (3, .int y3)] [] τ Q) : h_T g_P (g_Y ns) 225 1121 [(0, .ref 0), (1, .ref 9), (2, .ref 98), (3, .int y3)] [] s0 Q := by
  have F0_ : h_F (fun _ _ => true) s0 s0 := h_F.rf
  have j0_ := j0.2
  have i0 := tf_64_1 I0
  have i1 := tf_98_11 I0
  have i2 := tf_64_4 I0
  have i3 := tf_98_16 I0
  have i4 := tf_63_2 I0
  have i5 := tf_10_8 I0
  have i6 := tf_98_1 I0
  have i7 := tf_10_9 I0
  have i8 := tf_98_2 I0
  have i9 := tf_10_10 I0
  have i11 := tf_13_2 I0
  have i13 := tf_16_2 I0
  have j2_ := j2.sz
  have j2i := j2.2.2.1
  have y43 := ty_99_10 I0 43 (by omega)
  have y18 := ty_99_3 I0 18 (by omega)
  have y25 := ty_99_5 I0 25 (by omega)
  have y62_0 := ty_62 I0 0
  have y62_1 := ty_62 I0 1
  have y110_0 := ty_110 I0 0
  have y110_1 := ty_110 I0 1
  refine h_aload_n (pc' := 1122) rfl rfl rfl ?_
  refine h_aload_n (pc' := 1123) rfl rfl rfl ?_
  refine h_iload_n (pc' := 1124) rfl rfl rfl ?_
  refine h_iconst (pc' := 1125) (x := (Int32.ofInt 1)) rfl rfl rfl ?_
  refine h_iadd (pc' := 1126) rfl rfl hy3 ci_1 rfl (by omega) (by omega) (fun z1 hz1 => ?_)
  refine h_iald (pc' := 1127) (v := s0 0 (b3 + 1)) rfl rfl rfl hz1 (by omega) (by omega) rfl (fun z2 hz2 => ?_)
  have tz2 := h_rgv hz2
  refine h_call (sp := false) (pc' := 1130) (M := [(0, .ref 9), (1, .int z2)]) rfl rfl rfl rfl rfl rfl rfl rfl ?_
  refine w_113_9 _ I0 z2 _ hz2 (fun r3 br3 hr3 s4 Is4 Gs4 => h_Kv ?_)
  have Zs4 : ∀ i, s4 0 i = s0 0 i := fun i => (Gs4 0 i rfl).trans rfl
  have Fs4 : h_F (fun _ _ => true) s4 s0 := fun _ _ h => by cases h
  have es4_0 : s4 64 1 = s0 64 1 := (Gs4 64 1 rfl).trans rfl
  have es4_1 : s4 98 11 = s0 98 11 := (Gs4 98 11 rfl).trans rfl
  have es4_2 : s4 64 4 = s0 64 4 := (Gs4 64 4 rfl).trans rfl
  have es4_3 : s4 98 16 = s0 98 16 := (Gs4 98 16 rfl).trans rfl
  have es4_4 : s4 63 2 = s0 63 2 := (Gs4 63 2 rfl).trans rfl
  have es4_5 : s4 10 8 = s0 10 8 := (Gs4 10 8 rfl).trans rfl
  have es4_6 : s4 98 1 = s0 98 1 := (Gs4 98 1 rfl).trans rfl
  have es4_7 : s4 10 9 = s0 10 9 := (Gs4 10 9 rfl).trans rfl
  have es4_8 : s4 98 2 = s0 98 2 := (Gs4 98 2 rfl).trans rfl
  have es4_9 : s4 10 10 = s0 10 10 := (Gs4 10 10 rfl).trans rfl
  have es4_10 : s4 99 43 = s0 99 43 := (Gs4 99 43 rfl).trans rfl
  have es4_11 : s4 13 2 = s0 13 2 := (Gs4 13 2 rfl).trans rfl
  have es4_12 : s4 99 18 = s0 99 18 := (Gs4 99 18 rfl).trans rfl
  have es4_13 : s4 16 2 = s0 16 2 := (Gs4 16 2 rfl).trans rfl
  have es4_14 : s4 99 25 = s0 99 25 := (Gs4 99 25 rfl).trans rfl
  have es4_15 : s4 62 0 = s0 62 0 := (Gs4 62 0 rfl).trans rfl
  have es4_16 : s4 110 0 = s0 110 0 := (Gs4 110 0 rfl).trans rfl
  have es4_17 : s4 62 1 = s0 62 1 := (Gs4 62 1 rfl).trans rfl
  have es4_18 : s4 110 1 = s0 110 1 := (Gs4 110 1 rfl).trans rfl
  refine h_pop (pc' := 1131) rfl rfl rfl ?_
  refine h_aload_n (pc' := 1132) rfl rfl rfl ?_
  refine h_aload_n (pc' := 1133) rfl rfl rfl ?_
  refine h_iload_n (pc' := 1134) rfl rfl rfl ?_
  refine h_iconst (pc' := 1135) (x := (Int32.ofInt 1)) rfl rfl rfl ?_
  refine h_iadd (pc' := 1136) rfl rfl hy3 ci_1 rfl (by omega) (by omega) (fun z5 hz5 => ?_)
  refine h_iald (pc' := 1137) (v := s0 0 (b3 + 1)) rfl rfl rfl hz5 (by omega) (by omega) (Zs4 _) (fun z6 hz6 => ?_)
  have tz6 := h_rgv hz6
  refine h_call (sp := false) (pc' := 1140) (M := [(0, .ref 98), (1, .int z6)]) rfl rfl rfl rfl rfl rfl rfl rfl ?_
  refine w_214_98 _ Is4 z6 _ hz6 (fun r7 br7 hr7 s8 Is8 Gs8 => h_Kv ?_)
  have Zs8 : ∀ i, s8 0 i = s0 0 i := fun i => (Gs8 0 i rfl).trans (Zs4 i)
  have Fs8 : h_F (fun _ _ => true) s8 s0 := fun _ _ h => by cases h
  have es8_0 : s8 64 1 = s0 64 1 := (Gs8 64 1 rfl).trans es4_0
  have es8_1 : s8 98 11 = s0 98 11 := (Gs8 98 11 rfl).trans es4_1
  have es8_2 : s8 64 4 = s0 64 4 := (Gs8 64 4 rfl).trans es4_2
  have es8_3 : s8 98 16 = s0 98 16 := (Gs8 98 16 rfl).trans es4_3
  have es8_4 : s8 63 2 = s0 63 2 := (Gs8 63 2 rfl).trans es4_4
  have es8_5 : s8 10 8 = s0 10 8 := (Gs8 10 8 rfl).trans es4_5
  have es8_6 : s8 98 1 = s0 98 1 := (Gs8 98 1 rfl).trans es4_6
  have es8_7 : s8 10 9 = s0 10 9 := (Gs8 10 9 rfl).trans es4_7
  have es8_8 : s8 98 2 = s0 98 2 := (Gs8 98 2 rfl).trans es4_8
  have es8_9 : s8 10 10 = s0 10 10 := (Gs8 10 10 rfl).trans es4_9
  have es8_10 : s8 99 43 = s0 99 43 := (Gs8 99 43 rfl).trans es4_10
  have es8_11 : s8 13 2 = s0 13 2 := (Gs8 13 2 rfl).trans es4_11
  have es8_12 : s8 99 18 = s0 99 18 := (Gs8 99 18 rfl).trans es4_12
  have es8_13 : s8 16 2 = s0 16 2 := (Gs8 16 2 rfl).trans es4_13
  have es8_14 : s8 99 25 = s0 99 25 := (Gs8 99 25 rfl).trans es4_14
  have es8_15 : s8 62 0 = s0 62 0 := (Gs8 62 0 rfl).trans es4_15
  have es8_16 : s8 110 0 = s0 110 0 := (Gs8 110 0 rfl).trans es4_16
  have es8_17 : s8 62 1 = s0 62 1 := (Gs8 62 1 rfl).trans es4_17
  have es8_18 : s8 110 1 = s0 110 1 := (Gs8 110 1 rfl).trans es4_18
  clear es4_0 es4_1 es4_10 es4_11 es4_12 es4_13 es4_14 es4_15 es4_16 es4_17 es4_18 es4_2 es4_3 es4_4 es4_5 es4_6 es4_7 es4_8 es4_9
  refine h_pop (pc' := 1141) rfl rfl rfl ?_
  refine h_goto (pc' := 1441) rfl rfl ?_
  exact kk _ Is8 (by first | exact d_tape.le j0 (Int.le_antisymm (by omega) (by omega)) (by omega) (fun j => (Gs8 65 j rfl).trans ((Gs4 65 j rfl))) (fun j => (Gs8 102 j rfl).trans ((Gs4 102 j rfl))) | (exfalso; omega)) (Int.le_antisymm (by omega) (by omega)) (c_R.fr (c_R.fr j2 I0 Gs4 rfl) Is4 Gs8 rfl)
set_option maxHeartbeats 100000000 in
theorem g_case_1144 {ns : Nat} (hns : ns ≤ 320) (s0 : h_S) (I0 : h_I s0) (j0 : d_tape s0 s0) (j1 : s0 64 4 = s0 98 16) (j2 : c_R false s0) (y3 : Int32) (b3 : Int) (hy3 : y3.toInt = b3) (hr : 0 ≤ b3 ∧ b3 + 5 ≤ ns) {Q : Option Value → h_S → Prop} (kk : ∀ τ, h_I τ → (d_tape τ τ) → (τ 64 4 = τ 98 16) → (c_R false τ) → h_T g_P (g_Y ns) 225 1441 [(0, .ref 0), (1, .ref 9), (2, .ref 98), (3, .int y3)] [] τ Q) : h_T g_P (g_Y ns) 225 1144 [(0, .ref 0), (1, .ref 9), (2, .ref 98), (3, .int y3)] [] s0 Q := by
  have F0_ : h_F (fun _ _ => true) s0 s0 := h_F.rf
  have j0_ := j0.2
  have i0 := tf_64_1 I0
  have i1 := tf_98_11 I0
  have i2 := tf_64_4 I0
  have i3 := tf_98_16 I0
  have i4 := tf_63_2 I0
  have i5 := tf_10_8 I0
  have i6 := tf_98_1 I0
  have i7 := tf_10_9 I0
  have i8 := tf_98_2 I0
  have i9 := tf_10_10 I0
  have i11 := tf_13_2 I0
  have i13 := tf_16_2 I0
  have j2_ := j2.sz
  have j2i := j2.2.2.1
  have y43 := ty_99_10 I0 43 (by omega)
  have y18 := ty_99_3 I0 18 (by omega)
  have y25 := ty_99_5 I0 25 (by omega)
  have y62_0 := ty_62 I0 0
  have y62_1 := ty_62 I0 1
  have y110_0 := ty_110 I0 0
  have y110_1 := ty_110 I0 1
  refine h_aload_n (pc' := 1145) rfl rfl rfl ?_
  refine h_aload_n (pc' := 1146) rfl rfl rfl ?_
  refine h_iload_n (pc' := 1147) rfl rfl rfl ?_
  refine h_iconst (pc' := 1148) (x := (Int32.ofInt 1)) rfl rfl rfl ?_
  refine h_iadd (pc' := 1149) rfl rfl hy3 ci_1 rfl (by omega) (by omega) (fun z1 hz1 => ?_)
  refine h_iald (pc' := 1150) (v := s0 0 (b3 + 1)) rfl rfl rfl hz1 (by omega) (by omega) rfl (fun z2 hz2 => ?_)
  have tz2 := h_rgv hz2
  refine h_aload_n (pc' := 1151) rfl rfl rfl ?_
  refine h_iload_n (pc' := 1152) rfl rfl rfl ?_
  refine h_iconst (pc' := 1153) (x := (Int32.ofInt 2)) rfl rfl rfl ?_
  refine h_iadd (pc' := 1154) rfl rfl hy3 ci_2 rfl (by omega) (by omega) (fun z3 hz3 => ?_)
  refine h_iald (pc' := 1155) (v := s0 0 (b3 + 2)) rfl rfl rfl hz3 (by omega) (by omega) rfl (fun z4 hz4 => ?_)
  have tz4 := h_rgv hz4
  refine h_call (sp := false) (pc' := 1158) (M := [(0, .ref 9), (1, .int z2), (2, .int z4)]) rfl rfl rfl rfl rfl rfl rfl rfl ?_
  refine w_114_9 _ I0 z2 _ hz2 z4 _ hz4 (fun r5 br5 hr5 s6 Is6 Gs6 tr5 => h_Kv ?_)
  have Zs6 : ∀ i, s6 0 i = s0 0 i := fun i => (Gs6 0 i rfl).trans rfl
  have Fs6 : h_F (fun _ _ => true) s6 s0 := fun _ _ h => by cases h
  have es6_0 : s6 64 1 = s0 64 1 := (Gs6 64 1 rfl).trans rfl
  have es6_1 : s6 98 11 = s0 98 11 := (Gs6 98 11 rfl).trans rfl
  have es6_2 : s6 64 4 = s0 64 4 := (Gs6 64 4 rfl).trans rfl
  have es6_3 : s6 98 16 = s0 98 16 := (Gs6 98 16 rfl).trans rfl
  have es6_4 : s6 63 2 = s0 63 2 := (Gs6 63 2 rfl).trans rfl
  have es6_5 : s6 10 8 = s0 10 8 := (Gs6 10 8 rfl).trans rfl
  have es6_6 : s6 98 1 = s0 98 1 := (Gs6 98 1 rfl).trans rfl
  have es6_7 : s6 10 9 = s0 10 9 := (Gs6 10 9 rfl).trans rfl
  have es6_8 : s6 98 2 = s0 98 2 := (Gs6 98 2 rfl).trans rfl
  have es6_9 : s6 10 10 = s0 10 10 := (Gs6 10 10 rfl).trans rfl
  have es6_10 : s6 99 43 = s0 99 43 := (Gs6 99 43 rfl).trans rfl
  have es6_11 : s6 13 2 = s0 13 2 := (Gs6 13 2 rfl).trans rfl
  have es6_12 : s6 99 18 = s0 99 18 := (Gs6 99 18 rfl).trans rfl
  have es6_13 : s6 16 2 = s0 16 2 := (Gs6 16 2 rfl).trans rfl
  have es6_14 : s6 99 25 = s0 99 25 := (Gs6 99 25 rfl).trans rfl
  have es6_15 : s6 62 0 = s0 62 0 := (Gs6 62 0 rfl).trans rfl
  have es6_16 : s6 110 0 = s0 110 0 := (Gs6 110 0 rfl).trans rfl
  have es6_17 : s6 62 1 = s0 62 1 := (Gs6 62 1 rfl).trans rfl
  have es6_18 : s6 110 1 = s0 110 1 := (Gs6 110 1 rfl).trans rfl
  refine h_pop (pc' := 1159) rfl rfl rfl ?_
  refine h_aload_n (pc' := 1160) rfl rfl rfl ?_
  refine h_aload_n (pc' := 1161) rfl rfl rfl ?_
  refine h_iload_n (pc' := 1162) rfl rfl rfl ?_
  refine h_iconst (pc' := 1163) (x := (Int32.ofInt 1)) rfl rfl rfl ?_
  refine h_iadd (pc' := 1164) rfl rfl hy3 ci_1 rfl (by omega) (by omega) (fun z7 hz7 => ?_)
  refine h_iald (pc' := 1165) (v := s0 0 (b3 + 1)) rfl rfl rfl hz7 (by omega) (by omega) (Zs6 _) (fun z8 hz8 => ?_)
  have tz8 := h_rgv hz8
  refine h_aload_n (pc' := 1166) rfl rfl rfl ?_
  refine h_iload_n (pc' := 1167) rfl rfl rfl ?_
  refine h_iconst (pc' := 1168) (x := (Int32.ofInt 2)) rfl rfl rfl ?_
  refine h_iadd (pc' := 1169) rfl rfl hy3 ci_2 rfl (by omega) (by omega) (fun z9 hz9 => ?_)
  refine h_iald (pc' := 1170) (v := s0 0 (b3 + 2)) rfl rfl rfl hz9 (by omega) (by omega) (Zs6 _) (fun z10 hz10 => ?_)
  have tz10 := h_rgv hz10
  refine h_call (sp := false) (pc' := 1173) (M := [(0, .ref 98), (1, .int z8), (2, .int z10)]) rfl rfl rfl rfl rfl rfl rfl rfl ?_
  refine w_215_98 _ Is6 z8 _ hz8 z10 _ hz10 (fun r11 br11 hr11 s12 Is12 Gs12 => h_Kv ?_)
  have Zs12 : ∀ i, s12 0 i = s0 0 i := fun i => (Gs12 0 i rfl).trans (Zs6 i)
  have Fs12 : h_F (fun _ _ => true) s12 s0 := fun _ _ h => by cases h
  have es12_0 : s12 64 1 = s0 64 1 := (Gs12 64 1 rfl).trans es6_0
  have es12_1 : s12 98 11 = s0 98 11 := (Gs12 98 11 rfl).trans es6_1
  have es12_2 : s12 64 4 = s0 64 4 := (Gs12 64 4 rfl).trans es6_2
  have es12_3 : s12 98 16 = s0 98 16 := (Gs12 98 16 rfl).trans es6_3
  have es12_4 : s12 63 2 = s0 63 2 := (Gs12 63 2 rfl).trans es6_4
  have es12_5 : s12 10 8 = s0 10 8 := (Gs12 10 8 rfl).trans es6_5
  have es12_6 : s12 98 1 = s0 98 1 := (Gs12 98 1 rfl).trans es6_6
  have es12_7 : s12 10 9 = s0 10 9 := (Gs12 10 9 rfl).trans es6_7
  have es12_8 : s12 98 2 = s0 98 2 := (Gs12 98 2 rfl).trans es6_8
  have es12_9 : s12 10 10 = s0 10 10 := (Gs12 10 10 rfl).trans es6_9
  have es12_10 : s12 99 43 = s0 99 43 := (Gs12 99 43 rfl).trans es6_10
  have es12_11 : s12 13 2 = s0 13 2 := (Gs12 13 2 rfl).trans es6_11
  have es12_12 : s12 99 18 = s0 99 18 := (Gs12 99 18 rfl).trans es6_12
  have es12_13 : s12 16 2 = s0 16 2 := (Gs12 16 2 rfl).trans es6_13
  have es12_14 : s12 99 25 = s0 99 25 := (Gs12 99 25 rfl).trans es6_14
  have es12_15 : s12 62 0 = s0 62 0 := (Gs12 62 0 rfl).trans es6_15
  have es12_16 : s12 110 0 = s0 110 0 := (Gs12 110 0 rfl).trans es6_16
  have es12_17 : s12 62 1 = s0 62 1 := (Gs12 62 1 rfl).trans es6_17
  have es12_18 : s12 110 1 = s0 110 1 := (Gs12 110 1 rfl).trans es6_18
  clear es6_0 es6_1 es6_10 es6_11 es6_12 es6_13 es6_14 es6_15 es6_16 es6_17 es6_18 es6_2 es6_3 es6_4 es6_5 es6_6 es6_7 es6_8 es6_9
  refine h_pop (pc' := 1174) rfl rfl rfl ?_
  refine h_goto (pc' := 1441) rfl rfl ?_
  exact kk _ Is12 (by first | exact d_tape.le j0 (Int.le_antisymm (by omega) (by omega)) (by omega) (fun j => (Gs12 65 j rfl).trans ((Gs6 65 j rfl))) (fun j => (Gs12 102 j rfl).trans ((Gs6 102 j rfl))) | (exfalso; omega)) (Int.le_antisymm (by omega) (by omega)) (c_R.fr (c_R.fr j2 I0 Gs6 rfl) Is6 Gs12 rfl)
set_option maxHeartbeats 100000000 in
theorem g_case_1177 {ns : Nat} (hns : ns ≤ 320) (s0 : h_S) (I0 : h_I s0) (j0 : d_tape s0 s0) (j1 : s0 64 4 = s0 98 16) (j2 : c_R false s0) (y3 : Int32) (b3 : Int) (hy3 : y3.toInt = b3) (hr : 0 ≤ b3 ∧ b3 + 5 ≤ ns) {Q : Option Value → h_S → Prop} (kk : ∀ τ, h_I τ → (d_tape τ τ) → (τ 64 4 = τ 98 16) → (c_R false τ) → h_T g_P (g_Y ns) 225 1441 [(0, .ref 0), (1, .ref 9), (2, .ref 98), (3, .int y3)] [] τ Q) : h_T g_P (g_Y ns) 225 1177 [(0, .ref 0), (1, .ref 9), (2, .ref 98), (3, .int y3)] [] s0 Q := by
  have F0_ : h_F (fun _ _ => true) s0 s0 := h_F.rf
  have j0_ := j0.2
  have i0 := tf_64_1 I0
  have i1 := tf_98_11 I0
  have i2 := tf_64_4 I0
  have i3 := tf_98_16 I0
  have i4 := tf_63_2 I0
  have i5 := tf_10_8 I0
  have i6 := tf_98_1 I0
  have i7 := tf_10_9 I0
  have i8 := tf_98_2 I0
  have i9 := tf_10_10 I0
  have i11 := tf_13_2 I0
  have i13 := tf_16_2 I0
  have j2_ := j2.sz
  have j2i := j2.2.2.1
  have y43 := ty_99_10 I0 43 (by omega)
  have y18 := ty_99_3 I0 18 (by omega)
  have y25 := ty_99_5 I0 25 (by omega)
  have y62_0 := ty_62 I0 0
  have y62_1 := ty_62 I0 1
  have y110_0 := ty_110 I0 0
  have y110_1 := ty_110 I0 1
  refine h_aload_n (pc' := 1178) rfl rfl rfl ?_
  refine h_aload_n (pc' := 1179) rfl rfl rfl ?_
  refine h_iload_n (pc' := 1180) rfl rfl rfl ?_
  refine h_iconst (pc' := 1181) (x := (Int32.ofInt 1)) rfl rfl rfl ?_
  refine h_iadd (pc' := 1182) rfl rfl hy3 ci_1 rfl (by omega) (by omega) (fun z1 hz1 => ?_)
  refine h_iald (pc' := 1183) (v := s0 0 (b3 + 1)) rfl rfl rfl hz1 (by omega) (by omega) rfl (fun z2 hz2 => ?_)
  have tz2 := h_rgv hz2
  refine h_aload_n (pc' := 1184) rfl rfl rfl ?_
  refine h_iload_n (pc' := 1185) rfl rfl rfl ?_
  refine h_iconst (pc' := 1186) (x := (Int32.ofInt 2)) rfl rfl rfl ?_
  refine h_iadd (pc' := 1187) rfl rfl hy3 ci_2 rfl (by omega) (by omega) (fun z3 hz3 => ?_)
  refine h_iald (pc' := 1188) (v := s0 0 (b3 + 2)) rfl rfl rfl hz3 (by omega) (by omega) rfl (fun z4 hz4 => ?_)
  have tz4 := h_rgv hz4
  refine h_aload_n (pc' := 1189) rfl rfl rfl ?_
  refine h_iload_n (pc' := 1190) rfl rfl rfl ?_
  refine h_iconst (pc' := 1191) (x := (Int32.ofInt 3)) rfl rfl rfl ?_
  refine h_iadd (pc' := 1192) rfl rfl hy3 ci_3 rfl (by omega) (by omega) (fun z5 hz5 => ?_)
  refine h_iald (pc' := 1193) (v := s0 0 (b3 + 3)) rfl rfl rfl hz5 (by omega) (by omega) rfl (fun z6 hz6 => ?_)
  have tz6 := h_rgv hz6
  refine h_call (sp := false) (pc' := 1196) (M := [(0, .ref 9), (1, .int z2), (2, .int z4), (3, .int z6)]) rfl rfl rfl rfl rfl rfl rfl rfl ?_
  refine w_115_9 _ I0 z2 _ hz2 z4 _ hz4 z6 _ hz6 (fun r7 br7 hr7 s8 Is8 Gs8 => h_Kv ?_)
  have Zs8 : ∀ i, s8 0 i = s0 0 i := fun i => (Gs8 0 i rfl).trans rfl
  have Fs8 : h_F (fun _ _ => true) s8 s0 := fun _ _ h => by cases h
  have es8_0 : s8 64 1 = s0 64 1 := (Gs8 64 1 rfl).trans rfl
  have es8_1 : s8 98 11 = s0 98 11 := (Gs8 98 11 rfl).trans rfl
  have es8_2 : s8 64 4 = s0 64 4 := (Gs8 64 4 rfl).trans rfl
  have es8_3 : s8 98 16 = s0 98 16 := (Gs8 98 16 rfl).trans rfl
  have es8_4 : s8 63 2 = s0 63 2 := (Gs8 63 2 rfl).trans rfl
  have es8_5 : s8 10 8 = s0 10 8 := (Gs8 10 8 rfl).trans rfl
  have es8_6 : s8 98 1 = s0 98 1 := (Gs8 98 1 rfl).trans rfl
  have es8_7 : s8 10 9 = s0 10 9 := (Gs8 10 9 rfl).trans rfl
  have es8_8 : s8 98 2 = s0 98 2 := (Gs8 98 2 rfl).trans rfl
  have es8_9 : s8 10 10 = s0 10 10 := (Gs8 10 10 rfl).trans rfl
  have es8_10 : s8 99 43 = s0 99 43 := (Gs8 99 43 rfl).trans rfl
  have es8_11 : s8 13 2 = s0 13 2 := (Gs8 13 2 rfl).trans rfl
  have es8_12 : s8 99 18 = s0 99 18 := (Gs8 99 18 rfl).trans rfl
  have es8_13 : s8 16 2 = s0 16 2 := (Gs8 16 2 rfl).trans rfl
  have es8_14 : s8 99 25 = s0 99 25 := (Gs8 99 25 rfl).trans rfl
  have es8_15 : s8 62 0 = s0 62 0 := (Gs8 62 0 rfl).trans rfl
  have es8_16 : s8 110 0 = s0 110 0 := (Gs8 110 0 rfl).trans rfl
  have es8_17 : s8 62 1 = s0 62 1 := (Gs8 62 1 rfl).trans rfl
  have es8_18 : s8 110 1 = s0 110 1 := (Gs8 110 1 rfl).trans rfl
  refine h_pop (pc' := 1197) rfl rfl rfl ?_
  refine h_aload_n (pc' := 1198) rfl rfl rfl ?_
  refine h_aload_n (pc' := 1199) rfl rfl rfl ?_
  refine h_iload_n (pc' := 1200) rfl rfl rfl ?_
  refine h_iconst (pc' := 1201) (x := (Int32.ofInt 1)) rfl rfl rfl ?_
  refine h_iadd (pc' := 1202) rfl rfl hy3 ci_1 rfl (by omega) (by omega) (fun z9 hz9 => ?_)
  refine h_iald (pc' := 1203) (v := s0 0 (b3 + 1)) rfl rfl rfl hz9 (by omega) (by omega) (Zs8 _) (fun z10 hz10 => ?_)
  have tz10 := h_rgv hz10
  refine h_aload_n (pc' := 1204) rfl rfl rfl ?_
  refine h_iload_n (pc' := 1205) rfl rfl rfl ?_
  refine h_iconst (pc' := 1206) (x := (Int32.ofInt 2)) rfl rfl rfl ?_
  refine h_iadd (pc' := 1207) rfl rfl hy3 ci_2 rfl (by omega) (by omega) (fun z11 hz11 => ?_)
  refine h_iald (pc' := 1208) (v := s0 0 (b3 + 2)) rfl rfl rfl hz11 (by omega) (by omega) (Zs8 _) (fun z12 hz12 => ?_)
  have tz12 := h_rgv hz12
  refine h_aload_n (pc' := 1209) rfl rfl rfl ?_
  refine h_iload_n (pc' := 1210) rfl rfl rfl ?_
  refine h_iconst (pc' := 1211) (x := (Int32.ofInt 3)) rfl rfl rfl ?_
  refine h_iadd (pc' := 1212) rfl rfl hy3 ci_3 rfl (by omega) (by omega) (fun z13 hz13 => ?_)
  refine h_iald (pc' := 1213) (v := s0 0 (b3 + 3)) rfl rfl rfl hz13 (by omega) (by omega) (Zs8 _) (fun z14 hz14 => ?_)
  have tz14 := h_rgv hz14
  refine h_call (sp := false) (pc' := 1216) (M := [(0, .ref 98), (1, .int z10), (2, .int z12), (3, .int z14)]) rfl rfl rfl rfl rfl rfl rfl rfl ?_
  refine w_217_98 _ Is8 z10 _ hz10 z12 _ hz12 z14 _ hz14 (fun r15 br15 hr15 s16 Is16 Gs16 => h_Kv ?_)
  have Zs16 : ∀ i, s16 0 i = s0 0 i := fun i => (Gs16 0 i rfl).trans (Zs8 i)
  have Fs16 : h_F (fun _ _ => true) s16 s0 := fun _ _ h => by cases h
  have es16_0 : s16 64 1 = s0 64 1 := (Gs16 64 1 rfl).trans es8_0
  have es16_1 : s16 98 11 = s0 98 11 := (Gs16 98 11 rfl).trans es8_1
  have es16_2 : s16 64 4 = s0 64 4 := (Gs16 64 4 rfl).trans es8_2
  have es16_3 : s16 98 16 = s0 98 16 := (Gs16 98 16 rfl).trans es8_3
  have es16_4 : s16 63 2 = s0 63 2 := (Gs16 63 2 rfl).trans es8_4
  have es16_5 : s16 10 8 = s0 10 8 := (Gs16 10 8 rfl).trans es8_5
  have es16_6 : s16 98 1 = s0 98 1 := (Gs16 98 1 rfl).trans es8_6
  have es16_7 : s16 10 9 = s0 10 9 := (Gs16 10 9 rfl).trans es8_7
  have es16_8 : s16 98 2 = s0 98 2 := (Gs16 98 2 rfl).trans es8_8
  have es16_9 : s16 10 10 = s0 10 10 := (Gs16 10 10 rfl).trans es8_9
  have es16_10 : s16 99 43 = s0 99 43 := (Gs16 99 43 rfl).trans es8_10
  have es16_11 : s16 13 2 = s0 13 2 := (Gs16 13 2 rfl).trans es8_11
  have es16_12 : s16 99 18 = s0 99 18 := (Gs16 99 18 rfl).trans es8_12
  have es16_13 : s16 16 2 = s0 16 2 := (Gs16 16 2 rfl).trans es8_13
  have es16_14 : s16 99 25 = s0 99 25 := (Gs16 99 25 rfl).trans es8_14
  have es16_15 : s16 62 0 = s0 62 0 := (Gs16 62 0 rfl).trans es8_15
  have es16_16 : s16 110 0 = s0 110 0 := (Gs16 110 0 rfl).trans es8_16
  have es16_17 : s16 62 1 = s0 62 1 := (Gs16 62 1 rfl).trans es8_17
  have es16_18 : s16 110 1 = s0 110 1 := (Gs16 110 1 rfl).trans es8_18
  clear es8_0 es8_1 es8_10 es8_11 es8_12 es8_13 es8_14 es8_15 es8_16 es8_17 es8_18 es8_2 es8_3 es8_4 es8_5 es8_6 es8_7 es8_8 es8_9
  refine h_pop (pc' := 1217) rfl rfl rfl ?_
  refine h_goto (pc' := 1441) rfl rfl ?_
  exact kk _ Is16 (by first | exact d_tape.le j0 (Int.le_antisymm (by omega) (by omega)) (by omega) (fun j => (Gs16 65 j rfl).trans ((Gs8 65 j rfl))) (fun j => (Gs16 102 j rfl).trans ((Gs8 102 j rfl))) | (exfalso; omega)) (Int.le_antisymm (by omega) (by omega)) (c_R.fr (c_R.fr j2 I0 Gs8 rfl) Is8 Gs16 rfl)
set_option maxHeartbeats 100000000 in
theorem g_case_1220 {ns : Nat} (hns : ns ≤ 320) (s0 : h_S) (I0 : h_I s0) (j0 : d_tape s0 s0) (j1 : s0 64 4 = s0 98 16) (j2 : c_R false s0) (y3 : Int32) (b3 : Int) (hy3 : y3.toInt = b3) (hr : 0 ≤ b3 ∧ b3 + 5 ≤ ns) {Q : Option Value → h_S → Prop} (kk : ∀ τ, h_I τ → (d_tape τ τ) → (τ 64 4 = τ 98 16) → (c_R false τ) → h_T g_P (g_Y ns) 225 1441 [(0, .ref 0), (1, .ref 9), (2, .ref 98), (3, .int y3)] [] τ Q) : h_T g_P (g_Y ns) 225 1220 [(0, .ref 0), (1, .ref 9), (2, .ref 98), (3, .int y3)] [] s0 Q := by
  have F0_ : h_F (fun _ _ => true) s0 s0 := h_F.rf
  have j0_ := j0.2
  have i0 := tf_64_1 I0
  have i1 := tf_98_11 I0
  have i2 := tf_64_4 I0
  have i3 := tf_98_16 I0
  have i4 := tf_63_2 I0
  have i5 := tf_10_8 I0
  have i6 := tf_98_1 I0
  have i7 := tf_10_9 I0
  have i8 := tf_98_2 I0
  have i9 := tf_10_10 I0
  have i11 := tf_13_2 I0
  have i13 := tf_16_2 I0
  have j2_ := j2.sz
  have j2i := j2.2.2.1
  have y43 := ty_99_10 I0 43 (by omega)
  have y18 := ty_99_3 I0 18 (by omega)
  have y25 := ty_99_5 I0 25 (by omega)
  have y62_0 := ty_62 I0 0
  have y62_1 := ty_62 I0 1
  have y110_0 := ty_110 I0 0
  have y110_1 := ty_110 I0 1
  refine h_aload_n (pc' := 1221) rfl rfl rfl ?_
  refine h_aload_n (pc' := 1222) rfl rfl rfl ?_
  refine h_iload_n (pc' := 1223) rfl rfl rfl ?_
  refine h_iconst (pc' := 1224) (x := (Int32.ofInt 1)) rfl rfl rfl ?_
  refine h_iadd (pc' := 1225) rfl rfl hy3 ci_1 rfl (by omega) (by omega) (fun z1 hz1 => ?_)
  refine h_iald (pc' := 1226) (v := s0 0 (b3 + 1)) rfl rfl rfl hz1 (by omega) (by omega) rfl (fun z2 hz2 => ?_)
  have tz2 := h_rgv hz2
  refine h_call (sp := false) (pc' := 1229) (M := [(0, .ref 9), (1, .int z2)]) rfl rfl rfl rfl rfl rfl rfl rfl ?_
  refine h_iload_n (pc' := 1) rfl rfl rfl ?_
  refine h_calls (pc' := 4) (M := [(0, .int z2)]) rfl rfl rfl rfl rfl rfl ?_
  refine h_iload_n (pc' := 1) rfl rfl rfl ?_
  refine h_zeq (tg := 9) (pc' := 4) rfl rfl rfl hz2 (fun c3 => ?_) (fun c3 => ?_)
  · refine h_iconst (pc' := 10) (x := (Int32.ofInt 1)) rfl rfl rfl ?_
    refine h_goto (pc' := 14) rfl rfl ?_
    refine h_zret rfl rfl ci_1 (by omega) (h_Kv ?_)
    refine h_zne (tg := 9) (pc' := 7) rfl rfl rfl ci_1 (fun c4 => ?_) (fun c4 => absurd c4 (by omega))
    refine h_aload_n (pc' := 10) rfl rfl rfl ?_
    refine h_getR (pc' := 13) rfl rfl rfl rfl rfl ?_
    refine h_iload_n (pc' := 14) rfl rfl rfl ?_
    have qz2 : z2 = (Int32.ofInt 0) := h_lit (show z2.toInt = 0 by omega) ci_0
    subst qz2
    refine h_bald (pc' := 15) (v := s0 62 0) rfl rfl rfl ci_0 (by omega) (by omega) rfl (fun z5 hz5 => ?_)
    have tz5 := ty_62 I0 0
    refine h_zeq (tg := 22) (pc' := 18) rfl rfl rfl hz5 (fun c6 => ?_) (fun c6 => ?_)
    · refine h_iconst (pc' := 23) (x := (Int32.ofInt 0)) rfl rfl rfl ?_
      refine h_istore_n (pc' := 24) (M := [(2, .int (Int32.ofInt 0)), (0, .ref 9), (1, .int (Int32.ofInt 0))]) rfl rfl rfl rfl ?_
      refine h_aload_n (pc' := 25) rfl rfl rfl ?_
      refine h_iload_n (pc' := 26) rfl rfl rfl ?_
      refine h_call (sp := false) (pc' := 29) (M := [(0, .ref 9), (1, .int (Int32.ofInt 0))]) rfl rfl rfl rfl rfl rfl rfl rfl ?_
      refine h_iload_n (pc' := 1) rfl rfl rfl ?_
      refine h_zne (tg := 11) (pc' := 4) rfl rfl rfl ci_0 (fun c7 => absurd (Int.le_antisymm (by omega) (by omega)) c7) (fun c7 => ?_)
      refine h_aload_n (pc' := 5) rfl rfl rfl ?_
      refine h_getR (pc' := 8) rfl rfl rfl rfl rfl ?_
      refine h_goto (pc' := 15) rfl rfl ?_
      refine h_aret rfl rfl (h_Kv ?_)
      refine h_aload_n (pc' := 30) rfl rfl rfl ?_
      refine h_getR (pc' := 33) rfl rfl rfl rfl rfl ?_
      refine h_call (sp := false) (pc' := 36) (M := [(0, .ref 36), (1, .ref 10)]) rfl rfl rfl rfl rfl rfl rfl rfl ?_
      refine n_copy_36_10 _ I0  (fun s9 Is9 Gs9 ps9_0 => h_Kn ?_)
      have Zs9 : ∀ i, s9 0 i = s0 0 i := fun i => (Gs9 0 i rfl).trans rfl
      have Fs9 : h_F (fun _ _ => true) s9 s0 := fun _ _ h => by cases h
      have es9_0 : s9 64 1 = s0 64 1 := (Gs9 64 1 rfl).trans rfl
      have es9_1 : s9 98 11 = s0 98 11 := (Gs9 98 11 rfl).trans rfl
      have es9_2 : s9 64 4 = s0 64 4 := (Gs9 64 4 rfl).trans rfl
      have es9_3 : s9 98 16 = s0 98 16 := (Gs9 98 16 rfl).trans rfl
      have es9_4 : s9 63 2 = s0 63 2 := (Gs9 63 2 rfl).trans rfl
      have es9_5 : s9 10 8 = s0 10 8 := (Gs9 10 8 rfl).trans rfl
      have es9_6 : s9 98 1 = s0 98 1 := (Gs9 98 1 rfl).trans rfl
      have es9_7 : s9 10 9 = s0 10 9 := (Gs9 10 9 rfl).trans rfl
      have es9_8 : s9 98 2 = s0 98 2 := (Gs9 98 2 rfl).trans rfl
      have es9_9 : s9 10 10 = s0 10 10 := (Gs9 10 10 rfl).trans rfl
      have es9_10 : s9 99 43 = s0 99 43 := (Gs9 99 43 rfl).trans rfl
      have es9_11 : s9 13 2 = s0 13 2 := (Gs9 13 2 rfl).trans rfl
      have es9_12 : s9 99 18 = s0 99 18 := (Gs9 99 18 rfl).trans rfl
      have es9_13 : s9 16 2 = s0 16 2 := (Gs9 16 2 rfl).trans rfl
      have es9_14 : s9 99 25 = s0 99 25 := (Gs9 99 25 rfl).trans rfl
      have es9_15 : s9 62 0 = s0 62 0 := (Gs9 62 0 rfl).trans rfl
      have es9_16 : s9 110 0 = s0 110 0 := (Gs9 110 0 rfl).trans rfl
      have es9_17 : s9 62 1 = s0 62 1 := (Gs9 62 1 rfl).trans rfl
      have es9_18 : s9 110 1 = s0 110 1 := (Gs9 110 1 rfl).trans rfl
      refine h_aload_n (pc' := 37) rfl rfl rfl ?_
      refine h_getR (pc' := 40) rfl rfl rfl rfl rfl ?_
      refine h_iload_n (pc' := 41) rfl rfl rfl ?_
      refine h_iconst (pc' := 42) (x := (Int32.ofInt 1)) rfl rfl rfl ?_
      refine h_bast (pc' := 43) rfl rfl rfl rfl ci_0 (by omega) (by omega) ci_1 (by omega) (h_fgt (E := fun s => s 64 1 = s0 64 1 ∧ s 98 11 = s0 98 11 ∧ s 64 4 = s0 64 4 ∧ s 98 16 = s0 98 16 ∧ s 63 2 = s0 63 2 ∧ s 10 8 = s0 10 8 ∧ s 98 1 = s0 98 1 ∧ s 10 9 = s0 10 9 ∧ s 98 2 = s0 98 2 ∧ s 10 10 = s0 10 10 ∧ s 99 43 = s0 99 43 ∧ s 13 2 = s0 13 2 ∧ s 99 18 = s0 99 18 ∧ s 16 2 = s0 16 2 ∧ s 99 25 = s0 99 25 ∧ s 62 0 = 1 ∧ s 110 0 = s0 110 0 ∧ s 62 1 = s0 62 1 ∧ s 110 1 = s0 110 1 ∧ s = h_up s9 62 0 1) _ (in_62 Is9 (by omega)) (Fs9.up rfl) ⟨es9_0, es9_1, es9_2, es9_3, es9_4, es9_5, es9_6, es9_7, es9_8, es9_9, es9_10, es9_11, es9_12, es9_13, es9_14, rfl, es9_16, es9_17, es9_18, rfl⟩ (fun s10 Is10 Fs10 (es10 : s10 64 1 = s0 64 1 ∧ s10 98 11 = s0 98 11 ∧ s10 64 4 = s0 64 4 ∧ s10 98 16 = s0 98 16 ∧ s10 63 2 = s0 63 2 ∧ s10 10 8 = s0 10 8 ∧ s10 98 1 = s0 98 1 ∧ s10 10 9 = s0 10 9 ∧ s10 98 2 = s0 98 2 ∧ s10 10 10 = s0 10 10 ∧ s10 99 43 = s0 99 43 ∧ s10 13 2 = s0 13 2 ∧ s10 99 18 = s0 99 18 ∧ s10 16 2 = s0 16 2 ∧ s10 99 25 = s0 99 25 ∧ s10 62 0 = 1 ∧ s10 110 0 = s0 110 0 ∧ s10 62 1 = s0 62 1 ∧ s10 110 1 = s0 110 1 ∧ s10 = h_up s9 62 0 1) => ?_))
      have us10 := es10.2.2.2.2.2.2.2.2.2.2.2.2.2.2.2.2.2.2.2
      have Zs10 : ∀ i, s10 0 i = s0 0 i := fun i => (h_upo us10 rfl i).trans (Zs9 i)
      refine h_iload_n (pc' := 44) rfl rfl rfl ?_
      refine h_iret rfl rfl (h_Kv ?_)
      refine h_pop (pc' := 1230) rfl rfl rfl ?_
      refine h_aload_n (pc' := 1231) rfl rfl rfl ?_
      refine h_aload_n (pc' := 1232) rfl rfl rfl ?_
      refine h_iload_n (pc' := 1233) rfl rfl rfl ?_
      refine h_iconst (pc' := 1234) (x := (Int32.ofInt 1)) rfl rfl rfl ?_
      refine h_iadd (pc' := 1235) rfl rfl hy3 ci_1 rfl (by omega) (by omega) (fun z11 hz11 => ?_)
      refine h_iald (pc' := 1236) (v := s0 0 (b3 + 1)) rfl rfl rfl hz11 (by omega) (by omega) (Zs10 _) (fun z12 hz12 => ?_)
      have tz12 := h_rgv hz12
      refine h_call (sp := false) (pc' := 1239) (M := [(0, .ref 98), (1, .int z12)]) rfl rfl rfl rfl rfl rfl rfl rfl ?_
      refine h_iload_n (pc' := 1) rfl rfl rfl ?_
      refine h_i2l (pc' := 2) rfl rfl hz12 (fun z13 hz13 => ?_)
      refine h_lconst (pc' := 3) (x := (Int64.ofInt 0)) rfl rfl rfl ?_
      refine h_lconst (pc' := 4) (x := (Int64.ofInt 1)) rfl rfl rfl ?_
      refine h_calls (pc' := 7) (M := [(0, .long z13), (2, .long (Int64.ofInt 0)), (4, .long (Int64.ofInt 1))]) rfl rfl rfl rfl rfl rfl ?_
      refine h_lload_n (pc' := 1) rfl rfl rfl ?_
      refine h_lload_n (pc' := 2) rfl rfl rfl ?_
      refine h_lcmp (pc' := 3) rfl rfl hz13 cl_0 (fun z14 hz14 => ?_)
      refine h_zlt (tg := 17) (pc' := 6) rfl rfl rfl rfl (fun c15 => absurd c15 (by omega)) (fun c15 => ?_)
      replace c15 := (h_lcr hz14).2.1 c15
      clear hz14
      refine h_lload_n (pc' := 7) rfl rfl rfl ?_
      refine h_lload (pc' := 9) rfl rfl rfl ?_
      refine h_lcmp (pc' := 10) rfl rfl hz13 cl_1 (fun z16 hz16 => ?_)
      refine h_zgt (tg := 17) (pc' := 13) rfl rfl rfl rfl (fun c17 => absurd c17 (by omega)) (fun c17 => ?_)
      replace c17 := (h_lcr hz16).2.2.1 c17
      clear hz16
      refine h_iconst (pc' := 14) (x := (Int32.ofInt 1)) rfl rfl rfl ?_
      refine h_goto (pc' := 18) rfl rfl ?_
      refine h_zret rfl rfl ci_1 (by omega) (h_Kv ?_)
      refine h_zne (tg := 12) (pc' := 10) rfl rfl rfl ci_1 (fun c18 => ?_) (fun c18 => absurd c18 (by omega))
      refine h_aload_n (pc' := 13) rfl rfl rfl ?_
      refine h_iconst (pc' := 14) (x := (Int32.ofInt 0)) rfl rfl rfl ?_
      refine h_bipush (pc' := 16) (x := (Int32.ofInt 44)) rfl rfl cb_44 ?_
      refine h_iload_n (pc' := 17) rfl rfl rfl ?_
      refine h_iconst (pc' := 18) (x := (Int32.ofInt 1)) rfl rfl rfl ?_
      refine h_iadd (pc' := 19) rfl rfl hz12 ci_1 rfl (by have g0 := h_rgv hz12; omega) (by have g0 := h_rgv hz12; omega) (fun z19 hz19 => ?_)
      refine h_imul (pc' := 20) rfl rfl ci_44 hz19 rfl (by omega) (by omega) (fun z20 hz20 => ?_)
      have qz20 : z20 = (Int32.ofInt 44) := h_lit (show z20.toInt = 44 by omega) ci_44
      subst qz20
      refine h_call (sp := false) (pc' := 23) (M := [(0, .ref 98), (1, .int (Int32.ofInt 0)), (2, .int (Int32.ofInt 44))]) rfl rfl rfl rfl rfl rfl rfl rfl ?_
      refine n_copies_0_44 _ Is10   (fun s22 Is22 Gs22 ps22_0 => h_Kn ?_)
      have Zs22 : ∀ i, s22 0 i = s0 0 i := fun i => (Gs22 0 i rfl).trans (Zs10 i)
      have Fs22 : h_F (fun _ _ => true) s22 s0 := fun _ _ h => by cases h
      have es22_0 : s22 64 1 = s0 64 1 := (Gs22 64 1 rfl).trans es10.1
      have es22_1 : s22 98 11 = s0 98 11 := (Gs22 98 11 rfl).trans es10.2.1
      have es22_2 : s22 64 4 = s0 64 4 := (Gs22 64 4 rfl).trans es10.2.2.1
      have es22_3 : s22 98 16 = s0 98 16 := (Gs22 98 16 rfl).trans es10.2.2.2.1
      have es22_4 : s22 63 2 = s0 63 2 := (Gs22 63 2 rfl).trans es10.2.2.2.2.1
      have es22_5 : s22 10 8 = s0 10 8 := (Gs22 10 8 rfl).trans es10.2.2.2.2.2.1
      have es22_6 : s22 98 1 = s0 98 1 := (Gs22 98 1 rfl).trans es10.2.2.2.2.2.2.1
      have es22_7 : s22 10 9 = s0 10 9 := (Gs22 10 9 rfl).trans es10.2.2.2.2.2.2.2.1
      have es22_8 : s22 98 2 = s0 98 2 := (Gs22 98 2 rfl).trans es10.2.2.2.2.2.2.2.2.1
      have es22_9 : s22 10 10 = s0 10 10 := (Gs22 10 10 rfl).trans es10.2.2.2.2.2.2.2.2.2.1
      have es22_10 : s22 99 43 = s0 99 43 := (Gs22 99 43 rfl).trans es10.2.2.2.2.2.2.2.2.2.2.1
      have es22_11 : s22 13 2 = s0 13 2 := (Gs22 13 2 rfl).trans es10.2.2.2.2.2.2.2.2.2.2.2.1
      have es22_12 : s22 99 18 = s0 99 18 := (Gs22 99 18 rfl).trans es10.2.2.2.2.2.2.2.2.2.2.2.2.1
      have es22_13 : s22 16 2 = s0 16 2 := (Gs22 16 2 rfl).trans es10.2.2.2.2.2.2.2.2.2.2.2.2.2.1
      have es22_14 : s22 99 25 = s0 99 25 := (Gs22 99 25 rfl).trans es10.2.2.2.2.2.2.2.2.2.2.2.2.2.2.1
      have es22_15 : s22 62 0 = 1 := (Gs22 62 0 rfl).trans es10.2.2.2.2.2.2.2.2.2.2.2.2.2.2.2.1
      have es22_16 : s22 110 0 = s0 110 0 := (Gs22 110 0 rfl).trans es10.2.2.2.2.2.2.2.2.2.2.2.2.2.2.2.2.1
      have es22_17 : s22 62 1 = s0 62 1 := (Gs22 62 1 rfl).trans es10.2.2.2.2.2.2.2.2.2.2.2.2.2.2.2.2.2.1
      have es22_18 : s22 110 1 = s0 110 1 := (Gs22 110 1 rfl).trans es10.2.2.2.2.2.2.2.2.2.2.2.2.2.2.2.2.2.2.1
      refine h_aload_n (pc' := 24) rfl rfl rfl ?_
      refine h_getR (pc' := 27) rfl rfl rfl rfl rfl ?_
      refine h_iload_n (pc' := 28) rfl rfl rfl ?_
      have qz12 : z12 = (Int32.ofInt 0) := h_lit (show z12.toInt = 0 by omega) ci_0
      subst qz12
      refine h_bald (pc' := 29) (v := s0 110 0) rfl rfl rfl ci_0 (by omega) (by omega) es22_16 (fun z23 hz23 => ?_)
      have tz23 := ty_110 I0 0
      refine h_zeq (tg := 36) (pc' := 32) rfl rfl rfl hz23 (fun c24 => ?_) (fun c24 => absurd (Int.le_antisymm (by omega) (by omega)) c24)
      refine h_iconst (pc' := 37) (x := (Int32.ofInt 0)) rfl rfl rfl ?_
      refine h_istore_n (pc' := 38) (M := [(2, .int (Int32.ofInt 0)), (0, .ref 98), (1, .int (Int32.ofInt 0))]) rfl rfl rfl rfl ?_
      refine h_aload_n (pc' := 39) rfl rfl rfl ?_
      refine h_getR (pc' := 42) rfl rfl rfl rfl rfl ?_
      refine h_iload_n (pc' := 43) rfl rfl rfl ?_
      refine h_iconst (pc' := 44) (x := (Int32.ofInt 1)) rfl rfl rfl ?_
      refine h_bast (pc' := 45) rfl rfl rfl rfl ci_0 (by omega) (by omega) ci_1 (by omega) (h_fgt (E := fun s => s 64 1 = s0 64 1 ∧ s 98 11 = s0 98 11 ∧ s 64 4 = s0 64 4 ∧ s 98 16 = s0 98 16 ∧ s 63 2 = s0 63 2 ∧ s 10 8 = s0 10 8 ∧ s 98 1 = s0 98 1 ∧ s 10 9 = s0 10 9 ∧ s 98 2 = s0 98 2 ∧ s 10 10 = s0 10 10 ∧ s 99 43 = s0 99 43 ∧ s 13 2 = s0 13 2 ∧ s 99 18 = s0 99 18 ∧ s 16 2 = s0 16 2 ∧ s 99 25 = s0 99 25 ∧ s 62 0 = 1 ∧ s 110 0 = 1 ∧ s 62 1 = s0 62 1 ∧ s 110 1 = s0 110 1 ∧ s = h_up s22 110 0 1) _ (in_110 Is22 (by omega)) (Fs22.up rfl) ⟨es22_0, es22_1, es22_2, es22_3, es22_4, es22_5, es22_6, es22_7, es22_8, es22_9, es22_10, es22_11, es22_12, es22_13, es22_14, es22_15, rfl, es22_17, es22_18, rfl⟩ (fun s25 Is25 Fs25 (es25 : s25 64 1 = s0 64 1 ∧ s25 98 11 = s0 98 11 ∧ s25 64 4 = s0 64 4 ∧ s25 98 16 = s0 98 16 ∧ s25 63 2 = s0 63 2 ∧ s25 10 8 = s0 10 8 ∧ s25 98 1 = s0 98 1 ∧ s25 10 9 = s0 10 9 ∧ s25 98 2 = s0 98 2 ∧ s25 10 10 = s0 10 10 ∧ s25 99 43 = s0 99 43 ∧ s25 13 2 = s0 13 2 ∧ s25 99 18 = s0 99 18 ∧ s25 16 2 = s0 16 2 ∧ s25 99 25 = s0 99 25 ∧ s25 62 0 = 1 ∧ s25 110 0 = 1 ∧ s25 62 1 = s0 62 1 ∧ s25 110 1 = s0 110 1 ∧ s25 = h_up s22 110 0 1) => ?_))
      have us25 := es25.2.2.2.2.2.2.2.2.2.2.2.2.2.2.2.2.2.2.2
      have Zs25 : ∀ i, s25 0 i = s0 0 i := fun i => (h_upo us25 rfl i).trans (Zs22 i)
      refine h_iload_n (pc' := 46) rfl rfl rfl ?_
      refine h_iret rfl rfl (h_Kv ?_)
      refine h_pop (pc' := 1240) rfl rfl rfl ?_
      refine h_goto (pc' := 1441) rfl rfl ?_
      exact kk _ Is25 (by first | exact d_tape.le j0 (Int.le_antisymm (by omega) (by omega)) (by omega) (fun j => (h_upo us25 rfl j).trans ((Gs22 65 j rfl).trans ((h_upo us10 rfl j).trans ((Gs9 65 j rfl))))) (fun j => (h_upo us25 rfl j).trans ((Gs22 102 j rfl).trans ((h_upo us10 rfl j).trans ((Gs9 102 j rfl))))) | (exfalso; omega)) (Int.le_antisymm (by omega) (by omega)) (c_R.keep0 j2 I0 (Int.le_antisymm (by omega) (by omega)) (Int.le_antisymm (by omega) (by omega)) ((c_eq.up us25 rfl).tr ((c_eq.fr (fl := false) Gs22 rfl).tr ((c_eq.up us10 rfl).tr (c_eq.fr (fl := false) Gs9 rfl)))) (((c_eq.up us25 rfl).tr ((c_eq.fr (fl := false) Gs22 rfl).tr (c_eq.up us10 rfl))).tr (ps9_0.wk.tr c_eq.rf)) ((c_eq.up us25 rfl).tr ((c_eq.fr (fl := false) Gs22 rfl).tr ((c_eq.up us10 rfl).tr (c_eq.fr (fl := false) Gs9 rfl)))) ((((c_pg.fr (fl := false) (o := 0) Gs9 rfl).tr (c_pg.all (fun j _ _ => h_upo us10 rfl _))).tr (c_pg.fr (fl := false) (o := 0) Gs22 rfl)).tr (c_pg.all (fun j _ _ => h_upo us25 rfl _))) (fun j a b => (((h_upo us25 rfl _)).trans (ps22_0 j a b)).trans ((h_upo us10 rfl _).trans ((Gs9.no (q := 99) (l := 0) (u := 43) (j := 0 + j) rfl (by omega) (by omega))))) ((((c_pg.fr (fl := false) (o := 88) Gs9 rfl).tr (c_pg.all (fun j _ _ => h_upo us10 rfl _))).tr (c_pg.fr (fl := false) (o := 88) Gs22 rfl)).tr (c_pg.all (fun j _ _ => h_upo us25 rfl _))) (Int.le_antisymm (by omega) (by omega)) (Int.le_antisymm (by omega) (by omega)) (Int.le_antisymm (by omega) (by omega)) (Int.le_antisymm (by omega) (by omega)))
    · refine h_iconst (pc' := 19) (x := (Int32.ofInt 1)) rfl rfl rfl ?_
      refine h_goto (pc' := 23) rfl rfl ?_
      refine h_istore_n (pc' := 24) (M := [(2, .int (Int32.ofInt 1)), (0, .ref 9), (1, .int (Int32.ofInt 0))]) rfl rfl rfl rfl ?_
      refine h_aload_n (pc' := 25) rfl rfl rfl ?_
      refine h_iload_n (pc' := 26) rfl rfl rfl ?_
      refine h_call (sp := false) (pc' := 29) (M := [(0, .ref 9), (1, .int (Int32.ofInt 0))]) rfl rfl rfl rfl rfl rfl rfl rfl ?_
      refine h_iload_n (pc' := 1) rfl rfl rfl ?_
      refine h_zne (tg := 11) (pc' := 4) rfl rfl rfl ci_0 (fun c26 => absurd (Int.le_antisymm (by omega) (by omega)) c26) (fun c26 => ?_)
      refine h_aload_n (pc' := 5) rfl rfl rfl ?_
      refine h_getR (pc' := 8) rfl rfl rfl rfl rfl ?_
      refine h_goto (pc' := 15) rfl rfl ?_
      refine h_aret rfl rfl (h_Kv ?_)
      refine h_aload_n (pc' := 30) rfl rfl rfl ?_
      refine h_getR (pc' := 33) rfl rfl rfl rfl rfl ?_
      refine h_call (sp := false) (pc' := 36) (M := [(0, .ref 36), (1, .ref 10)]) rfl rfl rfl rfl rfl rfl rfl rfl ?_
      refine n_copy_36_10 _ I0  (fun s28 Is28 Gs28 ps28_0 => h_Kn ?_)
      have Zs28 : ∀ i, s28 0 i = s0 0 i := fun i => (Gs28 0 i rfl).trans rfl
      have Fs28 : h_F (fun _ _ => true) s28 s0 := fun _ _ h => by cases h
      have es28_0 : s28 64 1 = s0 64 1 := (Gs28 64 1 rfl).trans rfl
      have es28_1 : s28 98 11 = s0 98 11 := (Gs28 98 11 rfl).trans rfl
      have es28_2 : s28 64 4 = s0 64 4 := (Gs28 64 4 rfl).trans rfl
      have es28_3 : s28 98 16 = s0 98 16 := (Gs28 98 16 rfl).trans rfl
      have es28_4 : s28 63 2 = s0 63 2 := (Gs28 63 2 rfl).trans rfl
      have es28_5 : s28 10 8 = s0 10 8 := (Gs28 10 8 rfl).trans rfl
      have es28_6 : s28 98 1 = s0 98 1 := (Gs28 98 1 rfl).trans rfl
      have es28_7 : s28 10 9 = s0 10 9 := (Gs28 10 9 rfl).trans rfl
      have es28_8 : s28 98 2 = s0 98 2 := (Gs28 98 2 rfl).trans rfl
      have es28_9 : s28 10 10 = s0 10 10 := (Gs28 10 10 rfl).trans rfl
      have es28_10 : s28 99 43 = s0 99 43 := (Gs28 99 43 rfl).trans rfl
      have es28_11 : s28 13 2 = s0 13 2 := (Gs28 13 2 rfl).trans rfl
      have es28_12 : s28 99 18 = s0 99 18 := (Gs28 99 18 rfl).trans rfl
      have es28_13 : s28 16 2 = s0 16 2 := (Gs28 16 2 rfl).trans rfl
      have es28_14 : s28 99 25 = s0 99 25 := (Gs28 99 25 rfl).trans rfl
      have es28_15 : s28 62 0 = s0 62 0 := (Gs28 62 0 rfl).trans rfl
      have es28_16 : s28 110 0 = s0 110 0 := (Gs28 110 0 rfl).trans rfl
      have es28_17 : s28 62 1 = s0 62 1 := (Gs28 62 1 rfl).trans rfl
      have es28_18 : s28 110 1 = s0 110 1 := (Gs28 110 1 rfl).trans rfl
      refine h_aload_n (pc' := 37) rfl rfl rfl ?_
      refine h_getR (pc' := 40) rfl rfl rfl rfl rfl ?_
      refine h_iload_n (pc' := 41) rfl rfl rfl ?_
      refine h_iconst (pc' := 42) (x := (Int32.ofInt 1)) rfl rfl rfl ?_
      refine h_bast (pc' := 43) rfl rfl rfl rfl ci_0 (by omega) (by omega) ci_1 (by omega) (h_fgt (E := fun s => s 64 1 = s0 64 1 ∧ s 98 11 = s0 98 11 ∧ s 64 4 = s0 64 4 ∧ s 98 16 = s0 98 16 ∧ s 63 2 = s0 63 2 ∧ s 10 8 = s0 10 8 ∧ s 98 1 = s0 98 1 ∧ s 10 9 = s0 10 9 ∧ s 98 2 = s0 98 2 ∧ s 10 10 = s0 10 10 ∧ s 99 43 = s0 99 43 ∧ s 13 2 = s0 13 2 ∧ s 99 18 = s0 99 18 ∧ s 16 2 = s0 16 2 ∧ s 99 25 = s0 99 25 ∧ s 62 0 = 1 ∧ s 110 0 = s0 110 0 ∧ s 62 1 = s0 62 1 ∧ s 110 1 = s0 110 1 ∧ s = h_up s28 62 0 1) _ (in_62 Is28 (by omega)) (Fs28.up rfl) ⟨es28_0, es28_1, es28_2, es28_3, es28_4, es28_5, es28_6, es28_7, es28_8, es28_9, es28_10, es28_11, es28_12, es28_13, es28_14, rfl, es28_16, es28_17, es28_18, rfl⟩ (fun s29 Is29 Fs29 (es29 : s29 64 1 = s0 64 1 ∧ s29 98 11 = s0 98 11 ∧ s29 64 4 = s0 64 4 ∧ s29 98 16 = s0 98 16 ∧ s29 63 2 = s0 63 2 ∧ s29 10 8 = s0 10 8 ∧ s29 98 1 = s0 98 1 ∧ s29 10 9 = s0 10 9 ∧ s29 98 2 = s0 98 2 ∧ s29 10 10 = s0 10 10 ∧ s29 99 43 = s0 99 43 ∧ s29 13 2 = s0 13 2 ∧ s29 99 18 = s0 99 18 ∧ s29 16 2 = s0 16 2 ∧ s29 99 25 = s0 99 25 ∧ s29 62 0 = 1 ∧ s29 110 0 = s0 110 0 ∧ s29 62 1 = s0 62 1 ∧ s29 110 1 = s0 110 1 ∧ s29 = h_up s28 62 0 1) => ?_))
      have us29 := es29.2.2.2.2.2.2.2.2.2.2.2.2.2.2.2.2.2.2.2
      have Zs29 : ∀ i, s29 0 i = s0 0 i := fun i => (h_upo us29 rfl i).trans (Zs28 i)
      refine h_iload_n (pc' := 44) rfl rfl rfl ?_
      refine h_iret rfl rfl (h_Kv ?_)
      refine h_pop (pc' := 1230) rfl rfl rfl ?_
      refine h_aload_n (pc' := 1231) rfl rfl rfl ?_
      refine h_aload_n (pc' := 1232) rfl rfl rfl ?_
      refine h_iload_n (pc' := 1233) rfl rfl rfl ?_
      refine h_iconst (pc' := 1234) (x := (Int32.ofInt 1)) rfl rfl rfl ?_
      refine h_iadd (pc' := 1235) rfl rfl hy3 ci_1 rfl (by omega) (by omega) (fun z30 hz30 => ?_)
      refine h_iald (pc' := 1236) (v := s0 0 (b3 + 1)) rfl rfl rfl hz30 (by omega) (by omega) (Zs29 _) (fun z31 hz31 => ?_)
      have tz31 := h_rgv hz31
      refine h_call (sp := false) (pc' := 1239) (M := [(0, .ref 98), (1, .int z31)]) rfl rfl rfl rfl rfl rfl rfl rfl ?_
      refine h_iload_n (pc' := 1) rfl rfl rfl ?_
      refine h_i2l (pc' := 2) rfl rfl hz31 (fun z32 hz32 => ?_)
      refine h_lconst (pc' := 3) (x := (Int64.ofInt 0)) rfl rfl rfl ?_
      refine h_lconst (pc' := 4) (x := (Int64.ofInt 1)) rfl rfl rfl ?_
      refine h_calls (pc' := 7) (M := [(0, .long z32), (2, .long (Int64.ofInt 0)), (4, .long (Int64.ofInt 1))]) rfl rfl rfl rfl rfl rfl ?_
      refine h_lload_n (pc' := 1) rfl rfl rfl ?_
      refine h_lload_n (pc' := 2) rfl rfl rfl ?_
      refine h_lcmp (pc' := 3) rfl rfl hz32 cl_0 (fun z33 hz33 => ?_)
      refine h_zlt (tg := 17) (pc' := 6) rfl rfl rfl rfl (fun c34 => absurd c34 (by omega)) (fun c34 => ?_)
      replace c34 := (h_lcr hz33).2.1 c34
      clear hz33
      refine h_lload_n (pc' := 7) rfl rfl rfl ?_
      refine h_lload (pc' := 9) rfl rfl rfl ?_
      refine h_lcmp (pc' := 10) rfl rfl hz32 cl_1 (fun z35 hz35 => ?_)
      refine h_zgt (tg := 17) (pc' := 13) rfl rfl rfl rfl (fun c36 => absurd c36 (by omega)) (fun c36 => ?_)
      replace c36 := (h_lcr hz35).2.2.1 c36
      clear hz35
      refine h_iconst (pc' := 14) (x := (Int32.ofInt 1)) rfl rfl rfl ?_
      refine h_goto (pc' := 18) rfl rfl ?_
      refine h_zret rfl rfl ci_1 (by omega) (h_Kv ?_)
      refine h_zne (tg := 12) (pc' := 10) rfl rfl rfl ci_1 (fun c37 => ?_) (fun c37 => absurd c37 (by omega))
      refine h_aload_n (pc' := 13) rfl rfl rfl ?_
      refine h_iconst (pc' := 14) (x := (Int32.ofInt 0)) rfl rfl rfl ?_
      refine h_bipush (pc' := 16) (x := (Int32.ofInt 44)) rfl rfl cb_44 ?_
      refine h_iload_n (pc' := 17) rfl rfl rfl ?_
      refine h_iconst (pc' := 18) (x := (Int32.ofInt 1)) rfl rfl rfl ?_
      refine h_iadd (pc' := 19) rfl rfl hz31 ci_1 rfl (by have g0 := h_rgv hz31; omega) (by have g0 := h_rgv hz31; omega) (fun z38 hz38 => ?_)
      refine h_imul (pc' := 20) rfl rfl ci_44 hz38 rfl (by omega) (by omega) (fun z39 hz39 => ?_)
      have qz39 : z39 = (Int32.ofInt 44) := h_lit (show z39.toInt = 44 by omega) ci_44
      subst qz39
      refine h_call (sp := false) (pc' := 23) (M := [(0, .ref 98), (1, .int (Int32.ofInt 0)), (2, .int (Int32.ofInt 44))]) rfl rfl rfl rfl rfl rfl rfl rfl ?_
      refine n_copies_0_44 _ Is29   (fun s41 Is41 Gs41 ps41_0 => h_Kn ?_)
      have Zs41 : ∀ i, s41 0 i = s0 0 i := fun i => (Gs41 0 i rfl).trans (Zs29 i)
      have Fs41 : h_F (fun _ _ => true) s41 s0 := fun _ _ h => by cases h
      have es41_0 : s41 64 1 = s0 64 1 := (Gs41 64 1 rfl).trans es29.1
      have es41_1 : s41 98 11 = s0 98 11 := (Gs41 98 11 rfl).trans es29.2.1
      have es41_2 : s41 64 4 = s0 64 4 := (Gs41 64 4 rfl).trans es29.2.2.1
      have es41_3 : s41 98 16 = s0 98 16 := (Gs41 98 16 rfl).trans es29.2.2.2.1
      have es41_4 : s41 63 2 = s0 63 2 := (Gs41 63 2 rfl).trans es29.2.2.2.2.1
      have es41_5 : s41 10 8 = s0 10 8 := (Gs41 10 8 rfl).trans es29.2.2.2.2.2.1
      have es41_6 : s41 98 1 = s0 98 1 := (Gs41 98 1 rfl).trans es29.2.2.2.2.2.2.1
      have es41_7 : s41 10 9 = s0 10 9 := (Gs41 10 9 rfl).trans es29.2.2.2.2.2.2.2.1
      have es41_8 : s41 98 2 = s0 98 2 := (Gs41 98 2 rfl).trans es29.2.2.2.2.2.2.2.2.1
      have es41_9 : s41 10 10 = s0 10 10 := (Gs41 10 10 rfl).trans es29.2.2.2.2.2.2.2.2.2.1
      have es41_10 : s41 99 43 = s0 99 43 := (Gs41 99 43 rfl).trans es29.2.2.2.2.2.2.2.2.2.2.1
      have es41_11 : s41 13 2 = s0 13 2 := (Gs41 13 2 rfl).trans es29.2.2.2.2.2.2.2.2.2.2.2.1
      have es41_12 : s41 99 18 = s0 99 18 := (Gs41 99 18 rfl).trans es29.2.2.2.2.2.2.2.2.2.2.2.2.1
      have es41_13 : s41 16 2 = s0 16 2 := (Gs41 16 2 rfl).trans es29.2.2.2.2.2.2.2.2.2.2.2.2.2.1
      have es41_14 : s41 99 25 = s0 99 25 := (Gs41 99 25 rfl).trans es29.2.2.2.2.2.2.2.2.2.2.2.2.2.2.1
      have es41_15 : s41 62 0 = 1 := (Gs41 62 0 rfl).trans es29.2.2.2.2.2.2.2.2.2.2.2.2.2.2.2.1
      have es41_16 : s41 110 0 = s0 110 0 := (Gs41 110 0 rfl).trans es29.2.2.2.2.2.2.2.2.2.2.2.2.2.2.2.2.1
      have es41_17 : s41 62 1 = s0 62 1 := (Gs41 62 1 rfl).trans es29.2.2.2.2.2.2.2.2.2.2.2.2.2.2.2.2.2.1
      have es41_18 : s41 110 1 = s0 110 1 := (Gs41 110 1 rfl).trans es29.2.2.2.2.2.2.2.2.2.2.2.2.2.2.2.2.2.2.1
      refine h_aload_n (pc' := 24) rfl rfl rfl ?_
      refine h_getR (pc' := 27) rfl rfl rfl rfl rfl ?_
      refine h_iload_n (pc' := 28) rfl rfl rfl ?_
      have qz31 : z31 = (Int32.ofInt 0) := h_lit (show z31.toInt = 0 by omega) ci_0
      subst qz31
      refine h_bald (pc' := 29) (v := s0 110 0) rfl rfl rfl ci_0 (by omega) (by omega) es41_16 (fun z42 hz42 => ?_)
      have tz42 := ty_110 I0 0
      refine h_zeq (tg := 36) (pc' := 32) rfl rfl rfl hz42 (fun c43 => absurd c43 (by omega)) (fun c43 => ?_)
      refine h_iconst (pc' := 33) (x := (Int32.ofInt 1)) rfl rfl rfl ?_
      refine h_goto (pc' := 37) rfl rfl ?_
      refine h_istore_n (pc' := 38) (M := [(2, .int (Int32.ofInt 1)), (0, .ref 98), (1, .int (Int32.ofInt 0))]) rfl rfl rfl rfl ?_
      refine h_aload_n (pc' := 39) rfl rfl rfl ?_
      refine h_getR (pc' := 42) rfl rfl rfl rfl rfl ?_
      refine h_iload_n (pc' := 43) rfl rfl rfl ?_
      refine h_iconst (pc' := 44) (x := (Int32.ofInt 1)) rfl rfl rfl ?_
      refine h_bast (pc' := 45) rfl rfl rfl rfl ci_0 (by omega) (by omega) ci_1 (by omega) (h_fgt (E := fun s => s 64 1 = s0 64 1 ∧ s 98 11 = s0 98 11 ∧ s 64 4 = s0 64 4 ∧ s 98 16 = s0 98 16 ∧ s 63 2 = s0 63 2 ∧ s 10 8 = s0 10 8 ∧ s 98 1 = s0 98 1 ∧ s 10 9 = s0 10 9 ∧ s 98 2 = s0 98 2 ∧ s 10 10 = s0 10 10 ∧ s 99 43 = s0 99 43 ∧ s 13 2 = s0 13 2 ∧ s 99 18 = s0 99 18 ∧ s 16 2 = s0 16 2 ∧ s 99 25 = s0 99 25 ∧ s 62 0 = 1 ∧ s 110 0 = 1 ∧ s 62 1 = s0 62 1 ∧ s 110 1 = s0 110 1 ∧ s = h_up s41 110 0 1) _ (in_110 Is41 (by omega)) (Fs41.up rfl) ⟨es41_0, es41_1, es41_2, es41_3, es41_4, es41_5, es41_6, es41_7, es41_8, es41_9, es41_10, es41_11, es41_12, es41_13, es41_14, es41_15, rfl, es41_17, es41_18, rfl⟩ (fun s44 Is44 Fs44 (es44 : s44 64 1 = s0 64 1 ∧ s44 98 11 = s0 98 11 ∧ s44 64 4 = s0 64 4 ∧ s44 98 16 = s0 98 16 ∧ s44 63 2 = s0 63 2 ∧ s44 10 8 = s0 10 8 ∧ s44 98 1 = s0 98 1 ∧ s44 10 9 = s0 10 9 ∧ s44 98 2 = s0 98 2 ∧ s44 10 10 = s0 10 10 ∧ s44 99 43 = s0 99 43 ∧ s44 13 2 = s0 13 2 ∧ s44 99 18 = s0 99 18 ∧ s44 16 2 = s0 16 2 ∧ s44 99 25 = s0 99 25 ∧ s44 62 0 = 1 ∧ s44 110 0 = 1 ∧ s44 62 1 = s0 62 1 ∧ s44 110 1 = s0 110 1 ∧ s44 = h_up s41 110 0 1) => ?_))
      have us44 := es44.2.2.2.2.2.2.2.2.2.2.2.2.2.2.2.2.2.2.2
      have Zs44 : ∀ i, s44 0 i = s0 0 i := fun i => (h_upo us44 rfl i).trans (Zs41 i)
      refine h_iload_n (pc' := 46) rfl rfl rfl ?_
      refine h_iret rfl rfl (h_Kv ?_)
      refine h_pop (pc' := 1240) rfl rfl rfl ?_
      refine h_goto (pc' := 1441) rfl rfl ?_
      exact kk _ Is44 (by first | exact d_tape.le j0 (Int.le_antisymm (by omega) (by omega)) (by omega) (fun j => (h_upo us44 rfl j).trans ((Gs41 65 j rfl).trans ((h_upo us29 rfl j).trans ((Gs28 65 j rfl))))) (fun j => (h_upo us44 rfl j).trans ((Gs41 102 j rfl).trans ((h_upo us29 rfl j).trans ((Gs28 102 j rfl))))) | (exfalso; omega)) (Int.le_antisymm (by omega) (by omega)) (c_R.keep0 j2 I0 (Int.le_antisymm (by omega) (by omega)) (Int.le_antisymm (by omega) (by omega)) ((c_eq.up us44 rfl).tr ((c_eq.fr (fl := false) Gs41 rfl).tr ((c_eq.up us29 rfl).tr (c_eq.fr (fl := false) Gs28 rfl)))) (((c_eq.up us44 rfl).tr ((c_eq.fr (fl := false) Gs41 rfl).tr (c_eq.up us29 rfl))).tr (ps28_0.wk.tr c_eq.rf)) ((c_eq.up us44 rfl).tr ((c_eq.fr (fl := false) Gs41 rfl).tr ((c_eq.up us29 rfl).tr (c_eq.fr (fl := false) Gs28 rfl)))) ((((c_pg.fr (fl := false) (o := 0) Gs28 rfl).tr (c_pg.all (fun j _ _ => h_upo us29 rfl _))).tr (c_pg.fr (fl := false) (o := 0) Gs41 rfl)).tr (c_pg.all (fun j _ _ => h_upo us44 rfl _))) (fun j a b => (((h_upo us44 rfl _)).trans (ps41_0 j a b)).trans ((h_upo us29 rfl _).trans ((Gs28.no (q := 99) (l := 0) (u := 43) (j := 0 + j) rfl (by omega) (by omega))))) ((((c_pg.fr (fl := false) (o := 88) Gs28 rfl).tr (c_pg.all (fun j _ _ => h_upo us29 rfl _))).tr (c_pg.fr (fl := false) (o := 88) Gs41 rfl)).tr (c_pg.all (fun j _ _ => h_upo us44 rfl _))) (Int.le_antisymm (by omega) (by omega)) (Int.le_antisymm (by omega) (by omega)) (Int.le_antisymm (by omega) (by omega)) (Int.le_antisymm (by omega) (by omega)))
  · refine h_iload_n (pc' := 5) rfl rfl rfl ?_
    refine h_iconst (pc' := 6) (x := (Int32.ofInt 1)) rfl rfl rfl ?_
    refine h_cne (tg := 13) (pc' := 9) rfl rfl rfl hz2 ci_1 (fun c45 => ?_) (fun c45 => ?_)
    · refine h_iconst (pc' := 14) (x := (Int32.ofInt 0)) rfl rfl rfl ?_
      refine h_zret rfl rfl ci_0 (by omega) (h_Kv ?_)
      refine h_zne (tg := 9) (pc' := 7) rfl rfl rfl ci_0 (fun c46 => absurd (Int.le_antisymm (by omega) (by omega)) c46) (fun c46 => ?_)
      refine h_iconst (pc' := 8) (x := (Int32.ofInt (-1))) rfl rfl rfl ?_
      refine h_iret rfl rfl (h_Kv ?_)
      refine h_pop (pc' := 1230) rfl rfl rfl ?_
      refine h_aload_n (pc' := 1231) rfl rfl rfl ?_
      refine h_aload_n (pc' := 1232) rfl rfl rfl ?_
      refine h_iload_n (pc' := 1233) rfl rfl rfl ?_
      refine h_iconst (pc' := 1234) (x := (Int32.ofInt 1)) rfl rfl rfl ?_
      refine h_iadd (pc' := 1235) rfl rfl hy3 ci_1 rfl (by omega) (by omega) (fun z47 hz47 => ?_)
      refine h_iald (pc' := 1236) (v := s0 0 (b3 + 1)) rfl rfl rfl hz47 (by omega) (by omega) rfl (fun z48 hz48 => ?_)
      have tz48 := h_rgv hz48
      refine h_call (sp := false) (pc' := 1239) (M := [(0, .ref 98), (1, .int z48)]) rfl rfl rfl rfl rfl rfl rfl rfl ?_
      refine h_iload_n (pc' := 1) rfl rfl rfl ?_
      refine h_i2l (pc' := 2) rfl rfl hz48 (fun z49 hz49 => ?_)
      refine h_lconst (pc' := 3) (x := (Int64.ofInt 0)) rfl rfl rfl ?_
      refine h_lconst (pc' := 4) (x := (Int64.ofInt 1)) rfl rfl rfl ?_
      refine h_calls (pc' := 7) (M := [(0, .long z49), (2, .long (Int64.ofInt 0)), (4, .long (Int64.ofInt 1))]) rfl rfl rfl rfl rfl rfl ?_
      refine h_lload_n (pc' := 1) rfl rfl rfl ?_
      refine h_lload_n (pc' := 2) rfl rfl rfl ?_
      refine h_lcmp (pc' := 3) rfl rfl hz49 cl_0 (fun z50 hz50 => ?_)
      refine h_zlt (tg := 17) (pc' := 6) rfl rfl rfl rfl (fun c51 => ?_) (fun c51 => ?_)
      · replace c51 := (h_lcr hz50).1 c51
        clear hz50
        refine h_iconst (pc' := 18) (x := (Int32.ofInt 0)) rfl rfl rfl ?_
        refine h_zret rfl rfl ci_0 (by omega) (h_Kv ?_)
        refine h_zne (tg := 12) (pc' := 10) rfl rfl rfl ci_0 (fun c52 => absurd (Int.le_antisymm (by omega) (by omega)) c52) (fun c52 => ?_)
        refine h_iconst (pc' := 11) (x := (Int32.ofInt (-1))) rfl rfl rfl ?_
        refine h_iret rfl rfl (h_Kv ?_)
        refine h_pop (pc' := 1240) rfl rfl rfl ?_
        refine h_goto (pc' := 1441) rfl rfl ?_
        exact kk _ I0 (by first | exact d_tape.le j0 (Int.le_antisymm (by omega) (by omega)) (by omega) (fun j => rfl) (fun j => rfl) | (exfalso; omega)) (Int.le_antisymm (by omega) (by omega)) j2
      · replace c51 := (h_lcr hz50).2.1 c51
        clear hz50
        refine h_lload_n (pc' := 7) rfl rfl rfl ?_
        refine h_lload (pc' := 9) rfl rfl rfl ?_
        refine h_lcmp (pc' := 10) rfl rfl hz49 cl_1 (fun z53 hz53 => ?_)
        refine h_zgt (tg := 17) (pc' := 13) rfl rfl rfl rfl (fun c54 => ?_) (fun c54 => absurd c54 (by omega))
        replace c54 := (h_lcr hz53).2.2.2.1 c54
        clear hz53
        refine h_iconst (pc' := 18) (x := (Int32.ofInt 0)) rfl rfl rfl ?_
        refine h_zret rfl rfl ci_0 (by omega) (h_Kv ?_)
        refine h_zne (tg := 12) (pc' := 10) rfl rfl rfl ci_0 (fun c55 => absurd (Int.le_antisymm (by omega) (by omega)) c55) (fun c55 => ?_)
        refine h_iconst (pc' := 11) (x := (Int32.ofInt (-1))) rfl rfl rfl ?_
        refine h_iret rfl rfl (h_Kv ?_)
        refine h_pop (pc' := 1240) rfl rfl rfl ?_
        refine h_goto (pc' := 1441) rfl rfl ?_
        exact kk _ I0 (by first | exact d_tape.le j0 (Int.le_antisymm (by omega) (by omega)) (by omega) (fun j => rfl) (fun j => rfl) | (exfalso; omega)) (Int.le_antisymm (by omega) (by omega)) j2
    · refine h_iconst (pc' := 10) (x := (Int32.ofInt 1)) rfl rfl rfl ?_
      refine h_goto (pc' := 14) rfl rfl ?_
      refine h_zret rfl rfl ci_1 (by omega) (h_Kv ?_)
      refine h_zne (tg := 9) (pc' := 7) rfl rfl rfl ci_1 (fun c56 => ?_) (fun c56 => absurd c56 (by omega))
      refine h_aload_n (pc' := 10) rfl rfl rfl ?_
      refine h_getR (pc' := 13) rfl rfl rfl rfl rfl ?_
      refine h_iload_n (pc' := 14) rfl rfl rfl ?_
      have qz2 : z2 = (Int32.ofInt 1) := h_lit (show z2.toInt = 1 by omega) ci_1
      subst qz2
      refine h_bald (pc' := 15) (v := s0 62 1) rfl rfl rfl ci_1 (by omega) (by omega) rfl (fun z57 hz57 => ?_)
      have tz57 := ty_62 I0 1
      refine h_zeq (tg := 22) (pc' := 18) rfl rfl rfl hz57 (fun c58 => ?_) (fun c58 => ?_)
      · refine h_iconst (pc' := 23) (x := (Int32.ofInt 0)) rfl rfl rfl ?_
        refine h_istore_n (pc' := 24) (M := [(2, .int (Int32.ofInt 0)), (0, .ref 9), (1, .int (Int32.ofInt 1))]) rfl rfl rfl rfl ?_
        refine h_aload_n (pc' := 25) rfl rfl rfl ?_
        refine h_iload_n (pc' := 26) rfl rfl rfl ?_
        refine h_call (sp := false) (pc' := 29) (M := [(0, .ref 9), (1, .int (Int32.ofInt 1))]) rfl rfl rfl rfl rfl rfl rfl rfl ?_
        refine h_iload_n (pc' := 1) rfl rfl rfl ?_
        refine h_zne (tg := 11) (pc' := 4) rfl rfl rfl ci_1 (fun c59 => ?_) (fun c59 => absurd c59 (by omega))
        refine h_aload_n (pc' := 12) rfl rfl rfl ?_
        refine h_getR (pc' := 15) rfl rfl rfl rfl rfl ?_
        refine h_aret rfl rfl (h_Kv ?_)
        refine h_aload_n (pc' := 30) rfl rfl rfl ?_
        refine h_getR (pc' := 33) rfl rfl rfl rfl rfl ?_
        refine h_call (sp := false) (pc' := 36) (M := [(0, .ref 49), (1, .ref 10)]) rfl rfl rfl rfl rfl rfl rfl rfl ?_
        refine n_copy_49_10 _ I0  (fun s61 Is61 Gs61 ps61_0 => h_Kn ?_)
        have Zs61 : ∀ i, s61 0 i = s0 0 i := fun i => (Gs61 0 i rfl).trans rfl
        have Fs61 : h_F (fun _ _ => true) s61 s0 := fun _ _ h => by cases h
        have es61_0 : s61 64 1 = s0 64 1 := (Gs61 64 1 rfl).trans rfl
        have es61_1 : s61 98 11 = s0 98 11 := (Gs61 98 11 rfl).trans rfl
        have es61_2 : s61 64 4 = s0 64 4 := (Gs61 64 4 rfl).trans rfl
        have es61_3 : s61 98 16 = s0 98 16 := (Gs61 98 16 rfl).trans rfl
        have es61_4 : s61 63 2 = s0 63 2 := (Gs61 63 2 rfl).trans rfl
        have es61_5 : s61 10 8 = s0 10 8 := (Gs61 10 8 rfl).trans rfl
        have es61_6 : s61 98 1 = s0 98 1 := (Gs61 98 1 rfl).trans rfl
        have es61_7 : s61 10 9 = s0 10 9 := (Gs61 10 9 rfl).trans rfl
        have es61_8 : s61 98 2 = s0 98 2 := (Gs61 98 2 rfl).trans rfl
        have es61_9 : s61 10 10 = s0 10 10 := (Gs61 10 10 rfl).trans rfl
        have es61_10 : s61 99 43 = s0 99 43 := (Gs61 99 43 rfl).trans rfl
        have es61_11 : s61 13 2 = s0 13 2 := (Gs61 13 2 rfl).trans rfl
        have es61_12 : s61 99 18 = s0 99 18 := (Gs61 99 18 rfl).trans rfl
        have es61_13 : s61 16 2 = s0 16 2 := (Gs61 16 2 rfl).trans rfl
        have es61_14 : s61 99 25 = s0 99 25 := (Gs61 99 25 rfl).trans rfl
        have es61_15 : s61 62 0 = s0 62 0 := (Gs61 62 0 rfl).trans rfl
        have es61_16 : s61 110 0 = s0 110 0 := (Gs61 110 0 rfl).trans rfl
        have es61_17 : s61 62 1 = s0 62 1 := (Gs61 62 1 rfl).trans rfl
        have es61_18 : s61 110 1 = s0 110 1 := (Gs61 110 1 rfl).trans rfl
        refine h_aload_n (pc' := 37) rfl rfl rfl ?_
        refine h_getR (pc' := 40) rfl rfl rfl rfl rfl ?_
        refine h_iload_n (pc' := 41) rfl rfl rfl ?_
        refine h_iconst (pc' := 42) (x := (Int32.ofInt 1)) rfl rfl rfl ?_
        refine h_bast (pc' := 43) rfl rfl rfl rfl ci_1 (by omega) (by omega) ci_1 (by omega) (h_fgt (E := fun s => s 64 1 = s0 64 1 ∧ s 98 11 = s0 98 11 ∧ s 64 4 = s0 64 4 ∧ s 98 16 = s0 98 16 ∧ s 63 2 = s0 63 2 ∧ s 10 8 = s0 10 8 ∧ s 98 1 = s0 98 1 ∧ s 10 9 = s0 10 9 ∧ s 98 2 = s0 98 2 ∧ s 10 10 = s0 10 10 ∧ s 99 43 = s0 99 43 ∧ s 13 2 = s0 13 2 ∧ s 99 18 = s0 99 18 ∧ s 16 2 = s0 16 2 ∧ s 99 25 = s0 99 25 ∧ s 62 0 = s0 62 0 ∧ s 110 0 = s0 110 0 ∧ s 62 1 = 1 ∧ s 110 1 = s0 110 1 ∧ s = h_up s61 62 1 1) _ (in_62 Is61 (by omega)) (Fs61.up rfl) ⟨es61_0, es61_1, es61_2, es61_3, es61_4, es61_5, es61_6, es61_7, es61_8, es61_9, es61_10, es61_11, es61_12, es61_13, es61_14, es61_15, es61_16, rfl, es61_18, rfl⟩ (fun s62 Is62 Fs62 (es62 : s62 64 1 = s0 64 1 ∧ s62 98 11 = s0 98 11 ∧ s62 64 4 = s0 64 4 ∧ s62 98 16 = s0 98 16 ∧ s62 63 2 = s0 63 2 ∧ s62 10 8 = s0 10 8 ∧ s62 98 1 = s0 98 1 ∧ s62 10 9 = s0 10 9 ∧ s62 98 2 = s0 98 2 ∧ s62 10 10 = s0 10 10 ∧ s62 99 43 = s0 99 43 ∧ s62 13 2 = s0 13 2 ∧ s62 99 18 = s0 99 18 ∧ s62 16 2 = s0 16 2 ∧ s62 99 25 = s0 99 25 ∧ s62 62 0 = s0 62 0 ∧ s62 110 0 = s0 110 0 ∧ s62 62 1 = 1 ∧ s62 110 1 = s0 110 1 ∧ s62 = h_up s61 62 1 1) => ?_))
        have us62 := es62.2.2.2.2.2.2.2.2.2.2.2.2.2.2.2.2.2.2.2
        have Zs62 : ∀ i, s62 0 i = s0 0 i := fun i => (h_upo us62 rfl i).trans (Zs61 i)
        refine h_iload_n (pc' := 44) rfl rfl rfl ?_
        refine h_iret rfl rfl (h_Kv ?_)
        refine h_pop (pc' := 1230) rfl rfl rfl ?_
        refine h_aload_n (pc' := 1231) rfl rfl rfl ?_
        refine h_aload_n (pc' := 1232) rfl rfl rfl ?_
        refine h_iload_n (pc' := 1233) rfl rfl rfl ?_
        refine h_iconst (pc' := 1234) (x := (Int32.ofInt 1)) rfl rfl rfl ?_
        refine h_iadd (pc' := 1235) rfl rfl hy3 ci_1 rfl (by omega) (by omega) (fun z63 hz63 => ?_)
        refine h_iald (pc' := 1236) (v := s0 0 (b3 + 1)) rfl rfl rfl hz63 (by omega) (by omega) (Zs62 _) (fun z64 hz64 => ?_)
        have tz64 := h_rgv hz64
        refine h_call (sp := false) (pc' := 1239) (M := [(0, .ref 98), (1, .int z64)]) rfl rfl rfl rfl rfl rfl rfl rfl ?_
        refine h_iload_n (pc' := 1) rfl rfl rfl ?_
        refine h_i2l (pc' := 2) rfl rfl hz64 (fun z65 hz65 => ?_)
        refine h_lconst (pc' := 3) (x := (Int64.ofInt 0)) rfl rfl rfl ?_
        refine h_lconst (pc' := 4) (x := (Int64.ofInt 1)) rfl rfl rfl ?_
        refine h_calls (pc' := 7) (M := [(0, .long z65), (2, .long (Int64.ofInt 0)), (4, .long (Int64.ofInt 1))]) rfl rfl rfl rfl rfl rfl ?_
        refine h_lload_n (pc' := 1) rfl rfl rfl ?_
        refine h_lload_n (pc' := 2) rfl rfl rfl ?_
        refine h_lcmp (pc' := 3) rfl rfl hz65 cl_0 (fun z66 hz66 => ?_)
        refine h_zlt (tg := 17) (pc' := 6) rfl rfl rfl rfl (fun c67 => absurd c67 (by omega)) (fun c67 => ?_)
        replace c67 := (h_lcr hz66).2.1 c67
        clear hz66
        refine h_lload_n (pc' := 7) rfl rfl rfl ?_
        refine h_lload (pc' := 9) rfl rfl rfl ?_
        refine h_lcmp (pc' := 10) rfl rfl hz65 cl_1 (fun z68 hz68 => ?_)
        refine h_zgt (tg := 17) (pc' := 13) rfl rfl rfl rfl (fun c69 => absurd c69 (by omega)) (fun c69 => ?_)
        replace c69 := (h_lcr hz68).2.2.1 c69
        clear hz68
        refine h_iconst (pc' := 14) (x := (Int32.ofInt 1)) rfl rfl rfl ?_
        refine h_goto (pc' := 18) rfl rfl ?_
        refine h_zret rfl rfl ci_1 (by omega) (h_Kv ?_)
        refine h_zne (tg := 12) (pc' := 10) rfl rfl rfl ci_1 (fun c70 => ?_) (fun c70 => absurd c70 (by omega))
        refine h_aload_n (pc' := 13) rfl rfl rfl ?_
        refine h_iconst (pc' := 14) (x := (Int32.ofInt 0)) rfl rfl rfl ?_
        refine h_bipush (pc' := 16) (x := (Int32.ofInt 44)) rfl rfl cb_44 ?_
        refine h_iload_n (pc' := 17) rfl rfl rfl ?_
        refine h_iconst (pc' := 18) (x := (Int32.ofInt 1)) rfl rfl rfl ?_
        refine h_iadd (pc' := 19) rfl rfl hz64 ci_1 rfl (by have g0 := h_rgv hz64; omega) (by have g0 := h_rgv hz64; omega) (fun z71 hz71 => ?_)
        refine h_imul (pc' := 20) rfl rfl ci_44 hz71 rfl (by omega) (by omega) (fun z72 hz72 => ?_)
        have qz72 : z72 = (Int32.ofInt 88) := h_lit (show z72.toInt = 88 by omega) ci_88
        subst qz72
        refine h_call (sp := false) (pc' := 23) (M := [(0, .ref 98), (1, .int (Int32.ofInt 0)), (2, .int (Int32.ofInt 88))]) rfl rfl rfl rfl rfl rfl rfl rfl ?_
        refine n_copies_0_88 _ Is62   (fun s74 Is74 Gs74 ps74_0 => h_Kn ?_)
        have Zs74 : ∀ i, s74 0 i = s0 0 i := fun i => (Gs74 0 i rfl).trans (Zs62 i)
        have Fs74 : h_F (fun _ _ => true) s74 s0 := fun _ _ h => by cases h
        have es74_0 : s74 64 1 = s0 64 1 := (Gs74 64 1 rfl).trans es62.1
        have es74_1 : s74 98 11 = s0 98 11 := (Gs74 98 11 rfl).trans es62.2.1
        have es74_2 : s74 64 4 = s0 64 4 := (Gs74 64 4 rfl).trans es62.2.2.1
        have es74_3 : s74 98 16 = s0 98 16 := (Gs74 98 16 rfl).trans es62.2.2.2.1
        have es74_4 : s74 63 2 = s0 63 2 := (Gs74 63 2 rfl).trans es62.2.2.2.2.1
        have es74_5 : s74 10 8 = s0 10 8 := (Gs74 10 8 rfl).trans es62.2.2.2.2.2.1
        have es74_6 : s74 98 1 = s0 98 1 := (Gs74 98 1 rfl).trans es62.2.2.2.2.2.2.1
        have es74_7 : s74 10 9 = s0 10 9 := (Gs74 10 9 rfl).trans es62.2.2.2.2.2.2.2.1
        have es74_8 : s74 98 2 = s0 98 2 := (Gs74 98 2 rfl).trans es62.2.2.2.2.2.2.2.2.1
        have es74_9 : s74 10 10 = s0 10 10 := (Gs74 10 10 rfl).trans es62.2.2.2.2.2.2.2.2.2.1
        have es74_10 : s74 99 43 = s0 99 43 := (Gs74 99 43 rfl).trans es62.2.2.2.2.2.2.2.2.2.2.1
        have es74_11 : s74 13 2 = s0 13 2 := (Gs74 13 2 rfl).trans es62.2.2.2.2.2.2.2.2.2.2.2.1
        have es74_12 : s74 99 18 = s0 99 18 := (Gs74 99 18 rfl).trans es62.2.2.2.2.2.2.2.2.2.2.2.2.1
        have es74_13 : s74 16 2 = s0 16 2 := (Gs74 16 2 rfl).trans es62.2.2.2.2.2.2.2.2.2.2.2.2.2.1
        have es74_14 : s74 99 25 = s0 99 25 := (Gs74 99 25 rfl).trans es62.2.2.2.2.2.2.2.2.2.2.2.2.2.2.1
        have es74_15 : s74 62 0 = s0 62 0 := (Gs74 62 0 rfl).trans es62.2.2.2.2.2.2.2.2.2.2.2.2.2.2.2.1
        have es74_16 : s74 110 0 = s0 110 0 := (Gs74 110 0 rfl).trans es62.2.2.2.2.2.2.2.2.2.2.2.2.2.2.2.2.1
        have es74_17 : s74 62 1 = 1 := (Gs74 62 1 rfl).trans es62.2.2.2.2.2.2.2.2.2.2.2.2.2.2.2.2.2.1
        have es74_18 : s74 110 1 = s0 110 1 := (Gs74 110 1 rfl).trans es62.2.2.2.2.2.2.2.2.2.2.2.2.2.2.2.2.2.2.1
        refine h_aload_n (pc' := 24) rfl rfl rfl ?_
        refine h_getR (pc' := 27) rfl rfl rfl rfl rfl ?_
        refine h_iload_n (pc' := 28) rfl rfl rfl ?_
        have qz64 : z64 = (Int32.ofInt 1) := h_lit (show z64.toInt = 1 by omega) ci_1
        subst qz64
        refine h_bald (pc' := 29) (v := s0 110 1) rfl rfl rfl ci_1 (by omega) (by omega) es74_18 (fun z75 hz75 => ?_)
        have tz75 := ty_110 I0 1
        refine h_zeq (tg := 36) (pc' := 32) rfl rfl rfl hz75 (fun c76 => ?_) (fun c76 => absurd (Int.le_antisymm (by omega) (by omega)) c76)
        refine h_iconst (pc' := 37) (x := (Int32.ofInt 0)) rfl rfl rfl ?_
        refine h_istore_n (pc' := 38) (M := [(2, .int (Int32.ofInt 0)), (0, .ref 98), (1, .int (Int32.ofInt 1))]) rfl rfl rfl rfl ?_
        refine h_aload_n (pc' := 39) rfl rfl rfl ?_
        refine h_getR (pc' := 42) rfl rfl rfl rfl rfl ?_
        refine h_iload_n (pc' := 43) rfl rfl rfl ?_
        refine h_iconst (pc' := 44) (x := (Int32.ofInt 1)) rfl rfl rfl ?_
        refine h_bast (pc' := 45) rfl rfl rfl rfl ci_1 (by omega) (by omega) ci_1 (by omega) (h_fgt (E := fun s => s 64 1 = s0 64 1 ∧ s 98 11 = s0 98 11 ∧ s 64 4 = s0 64 4 ∧ s 98 16 = s0 98 16 ∧ s 63 2 = s0 63 2 ∧ s 10 8 = s0 10 8 ∧ s 98 1 = s0 98 1 ∧ s 10 9 = s0 10 9 ∧ s 98 2 = s0 98 2 ∧ s 10 10 = s0 10 10 ∧ s 99 43 = s0 99 43 ∧ s 13 2 = s0 13 2 ∧ s 99 18 = s0 99 18 ∧ s 16 2 = s0 16 2 ∧ s 99 25 = s0 99 25 ∧ s 62 0 = s0 62 0 ∧ s 110 0 = s0 110 0 ∧ s 62 1 = 1 ∧ s 110 1 = 1 ∧ s = h_up s74 110 1 1) _ (in_110 Is74 (by omega)) (Fs74.up rfl) ⟨es74_0, es74_1, es74_2, es74_3, es74_4, es74_5, es74_6, es74_7, es74_8, es74_9, es74_10, es74_11, es74_12, es74_13, es74_14, es74_15, es74_16, es74_17, rfl, rfl⟩ (fun s77 Is77 Fs77 (es77 : s77 64 1 = s0 64 1 ∧ s77 98 11 = s0 98 11 ∧ s77 64 4 = s0 64 4 ∧ s77 98 16 = s0 98 16 ∧ s77 63 2 = s0 63 2 ∧ s77 10 8 = s0 10 8 ∧ s77 98 1 = s0 98 1 ∧ s77 10 9 = s0 10 9 ∧ s77 98 2 = s0 98 2 ∧ s77 10 10 = s0 10 10 ∧ s77 99 43 = s0 99 43 ∧ s77 13 2 = s0 13 2 ∧ s77 99 18 = s0 99 18 ∧ s77 16 2 = s0 16 2 ∧ s77 99 25 = s0 99 25 ∧ s77 62 0 = s0 62 0 ∧ s77 110 0 = s0 110 0 ∧ s77 62 1 = 1 ∧ s77 110 1 = 1 ∧ s77 = h_up s74 110 1 1) => ?_))
        have us77 := es77.2.2.2.2.2.2.2.2.2.2.2.2.2.2.2.2.2.2.2
        have Zs77 : ∀ i, s77 0 i = s0 0 i := fun i => (h_upo us77 rfl i).trans (Zs74 i)
        refine h_iload_n (pc' := 46) rfl rfl rfl ?_
        refine h_iret rfl rfl (h_Kv ?_)
        refine h_pop (pc' := 1240) rfl rfl rfl ?_
        refine h_goto (pc' := 1441) rfl rfl ?_
        exact kk _ Is77 (by first | exact d_tape.le j0 (Int.le_antisymm (by omega) (by omega)) (by omega) (fun j => (h_upo us77 rfl j).trans ((Gs74 65 j rfl).trans ((h_upo us62 rfl j).trans ((Gs61 65 j rfl))))) (fun j => (h_upo us77 rfl j).trans ((Gs74 102 j rfl).trans ((h_upo us62 rfl j).trans ((Gs61 102 j rfl))))) | (exfalso; omega)) (Int.le_antisymm (by omega) (by omega)) (c_R.keep1 j2 I0 (Int.le_antisymm (by omega) (by omega)) (Int.le_antisymm (by omega) (by omega)) ((c_eq.up us77 rfl).tr ((c_eq.fr (fl := false) Gs74 rfl).tr ((c_eq.up us62 rfl).tr (c_eq.fr (fl := false) Gs61 rfl)))) ((c_eq.up us77 rfl).tr ((c_eq.fr (fl := false) Gs74 rfl).tr ((c_eq.up us62 rfl).tr (c_eq.fr (fl := false) Gs61 rfl)))) (((c_eq.up us77 rfl).tr ((c_eq.fr (fl := false) Gs74 rfl).tr (c_eq.up us62 rfl))).tr (ps61_0.wk.tr c_eq.rf)) ((((c_pg.fr (fl := false) (o := 0) Gs61 rfl).tr (c_pg.all (fun j _ _ => h_upo us62 rfl _))).tr (c_pg.fr (fl := false) (o := 0) Gs74 rfl)).tr (c_pg.all (fun j _ _ => h_upo us77 rfl _))) ((((c_pg.fr (fl := false) (o := 44) Gs61 rfl).tr (c_pg.all (fun j _ _ => h_upo us62 rfl _))).tr (c_pg.fr (fl := false) (o := 44) Gs74 rfl)).tr (c_pg.all (fun j _ _ => h_upo us77 rfl _))) (fun j a b => (((h_upo us77 rfl _)).trans (ps74_0 j a b)).trans ((h_upo us62 rfl _).trans ((Gs61.no (q := 99) (l := 0) (u := 43) (j := 0 + j) rfl (by omega) (by omega))))) (Int.le_antisymm (by omega) (by omega)) (Int.le_antisymm (by omega) (by omega)) (Int.le_antisymm (by omega) (by omega)) (Int.le_antisymm (by omega) (by omega)))
      · refine h_iconst (pc' := 19) (x := (Int32.ofInt 1)) rfl rfl rfl ?_
        refine h_goto (pc' := 23) rfl rfl ?_
        refine h_istore_n (pc' := 24) (M := [(2, .int (Int32.ofInt 1)), (0, .ref 9), (1, .int (Int32.ofInt 1))]) rfl rfl rfl rfl ?_
        refine h_aload_n (pc' := 25) rfl rfl rfl ?_
        refine h_iload_n (pc' := 26) rfl rfl rfl ?_
        refine h_call (sp := false) (pc' := 29) (M := [(0, .ref 9), (1, .int (Int32.ofInt 1))]) rfl rfl rfl rfl rfl rfl rfl rfl ?_
        refine h_iload_n (pc' := 1) rfl rfl rfl ?_
        refine h_zne (tg := 11) (pc' := 4) rfl rfl rfl ci_1 (fun c78 => ?_) (fun c78 => absurd c78 (by omega))
        refine h_aload_n (pc' := 12) rfl rfl rfl ?_
        refine h_getR (pc' := 15) rfl rfl rfl rfl rfl ?_
        refine h_aret rfl rfl (h_Kv ?_)
        refine h_aload_n (pc' := 30) rfl rfl rfl ?_
        refine h_getR (pc' := 33) rfl rfl rfl rfl rfl ?_
        refine h_call (sp := false) (pc' := 36) (M := [(0, .ref 49), (1, .ref 10)]) rfl rfl rfl rfl rfl rfl rfl rfl ?_
        refine n_copy_49_10 _ I0  (fun s80 Is80 Gs80 ps80_0 => h_Kn ?_)
        have Zs80 : ∀ i, s80 0 i = s0 0 i := fun i => (Gs80 0 i rfl).trans rfl
        have Fs80 : h_F (fun _ _ => true) s80 s0 := fun _ _ h => by cases h
        have es80_0 : s80 64 1 = s0 64 1 := (Gs80 64 1 rfl).trans rfl
        have es80_1 : s80 98 11 = s0 98 11 := (Gs80 98 11 rfl).trans rfl
        have es80_2 : s80 64 4 = s0 64 4 := (Gs80 64 4 rfl).trans rfl
        have es80_3 : s80 98 16 = s0 98 16 := (Gs80 98 16 rfl).trans rfl
        have es80_4 : s80 63 2 = s0 63 2 := (Gs80 63 2 rfl).trans rfl
        have es80_5 : s80 10 8 = s0 10 8 := (Gs80 10 8 rfl).trans rfl
        have es80_6 : s80 98 1 = s0 98 1 := (Gs80 98 1 rfl).trans rfl
        have es80_7 : s80 10 9 = s0 10 9 := (Gs80 10 9 rfl).trans rfl
        have es80_8 : s80 98 2 = s0 98 2 := (Gs80 98 2 rfl).trans rfl
        have es80_9 : s80 10 10 = s0 10 10 := (Gs80 10 10 rfl).trans rfl
        have es80_10 : s80 99 43 = s0 99 43 := (Gs80 99 43 rfl).trans rfl
        have es80_11 : s80 13 2 = s0 13 2 := (Gs80 13 2 rfl).trans rfl
        have es80_12 : s80 99 18 = s0 99 18 := (Gs80 99 18 rfl).trans rfl
        have es80_13 : s80 16 2 = s0 16 2 := (Gs80 16 2 rfl).trans rfl
        have es80_14 : s80 99 25 = s0 99 25 := (Gs80 99 25 rfl).trans rfl
        have es80_15 : s80 62 0 = s0 62 0 := (Gs80 62 0 rfl).trans rfl
        have es80_16 : s80 110 0 = s0 110 0 := (Gs80 110 0 rfl).trans rfl
        have es80_17 : s80 62 1 = s0 62 1 := (Gs80 62 1 rfl).trans rfl
        have es80_18 : s80 110 1 = s0 110 1 := (Gs80 110 1 rfl).trans rfl
        refine h_aload_n (pc' := 37) rfl rfl rfl ?_
        refine h_getR (pc' := 40) rfl rfl rfl rfl rfl ?_
        refine h_iload_n (pc' := 41) rfl rfl rfl ?_
        refine h_iconst (pc' := 42) (x := (Int32.ofInt 1)) rfl rfl rfl ?_
        refine h_bast (pc' := 43) rfl rfl rfl rfl ci_1 (by omega) (by omega) ci_1 (by omega) (h_fgt (E := fun s => s 64 1 = s0 64 1 ∧ s 98 11 = s0 98 11 ∧ s 64 4 = s0 64 4 ∧ s 98 16 = s0 98 16 ∧ s 63 2 = s0 63 2 ∧ s 10 8 = s0 10 8 ∧ s 98 1 = s0 98 1 ∧ s 10 9 = s0 10 9 ∧ s 98 2 = s0 98 2 ∧ s 10 10 = s0 10 10 ∧ s 99 43 = s0 99 43 ∧ s 13 2 = s0 13 2 ∧ s 99 18 = s0 99 18 ∧ s 16 2 = s0 16 2 ∧ s 99 25 = s0 99 25 ∧ s 62 0 = s0 62 0 ∧ s 110 0 = s0 110 0 ∧ s 62 1 = 1 ∧ s 110 1 = s0 110 1 ∧ s = h_up s80 62 1 1) _ (in_62 Is80 (by omega)) (Fs80.up rfl) ⟨es80_0, es80_1, es80_2, es80_3, es80_4, es80_5, es80_6, es80_7, es80_8, es80_9, es80_10, es80_11, es80_12, es80_13, es80_14, es80_15, es80_16, rfl, es80_18, rfl⟩ (fun s81 Is81 Fs81 (es81 : s81 64 1 = s0 64 1 ∧ s81 98 11 = s0 98 11 ∧ s81 64 4 = s0 64 4 ∧ s81 98 16 = s0 98 16 ∧ s81 63 2 = s0 63 2 ∧ s81 10 8 = s0 10 8 ∧ s81 98 1 = s0 98 1 ∧ s81 10 9 = s0 10 9 ∧ s81 98 2 = s0 98 2 ∧ s81 10 10 = s0 10 10 ∧ s81 99 43 = s0 99 43 ∧ s81 13 2 = s0 13 2 ∧ s81 99 18 = s0 99 18 ∧ s81 16 2 = s0 16 2 ∧ s81 99 25 = s0 99 25 ∧ s81 62 0 = s0 62 0 ∧ s81 110 0 = s0 110 0 ∧ s81 62 1 = 1 ∧ s81 110 1 = s0 110 1 ∧ s81 = h_up s80 62 1 1) => ?_))
        have us81 := es81.2.2.2.2.2.2.2.2.2.2.2.2.2.2.2.2.2.2.2
        have Zs81 : ∀ i, s81 0 i = s0 0 i := fun i => (h_upo us81 rfl i).trans (Zs80 i)
        refine h_iload_n (pc' := 44) rfl rfl rfl ?_
        refine h_iret rfl rfl (h_Kv ?_)
        refine h_pop (pc' := 1230) rfl rfl rfl ?_
        refine h_aload_n (pc' := 1231) rfl rfl rfl ?_
        refine h_aload_n (pc' := 1232) rfl rfl rfl ?_
        refine h_iload_n (pc' := 1233) rfl rfl rfl ?_
        refine h_iconst (pc' := 1234) (x := (Int32.ofInt 1)) rfl rfl rfl ?_
        refine h_iadd (pc' := 1235) rfl rfl hy3 ci_1 rfl (by omega) (by omega) (fun z82 hz82 => ?_)
        refine h_iald (pc' := 1236) (v := s0 0 (b3 + 1)) rfl rfl rfl hz82 (by omega) (by omega) (Zs81 _) (fun z83 hz83 => ?_)
        have tz83 := h_rgv hz83
        refine h_call (sp := false) (pc' := 1239) (M := [(0, .ref 98), (1, .int z83)]) rfl rfl rfl rfl rfl rfl rfl rfl ?_
        refine h_iload_n (pc' := 1) rfl rfl rfl ?_
        refine h_i2l (pc' := 2) rfl rfl hz83 (fun z84 hz84 => ?_)
        refine h_lconst (pc' := 3) (x := (Int64.ofInt 0)) rfl rfl rfl ?_
        refine h_lconst (pc' := 4) (x := (Int64.ofInt 1)) rfl rfl rfl ?_
        refine h_calls (pc' := 7) (M := [(0, .long z84), (2, .long (Int64.ofInt 0)), (4, .long (Int64.ofInt 1))]) rfl rfl rfl rfl rfl rfl ?_
        refine h_lload_n (pc' := 1) rfl rfl rfl ?_
        refine h_lload_n (pc' := 2) rfl rfl rfl ?_
        refine h_lcmp (pc' := 3) rfl rfl hz84 cl_0 (fun z85 hz85 => ?_)
        refine h_zlt (tg := 17) (pc' := 6) rfl rfl rfl rfl (fun c86 => absurd c86 (by omega)) (fun c86 => ?_)
        replace c86 := (h_lcr hz85).2.1 c86
        clear hz85
        refine h_lload_n (pc' := 7) rfl rfl rfl ?_
        refine h_lload (pc' := 9) rfl rfl rfl ?_
        refine h_lcmp (pc' := 10) rfl rfl hz84 cl_1 (fun z87 hz87 => ?_)
        refine h_zgt (tg := 17) (pc' := 13) rfl rfl rfl rfl (fun c88 => absurd c88 (by omega)) (fun c88 => ?_)
        replace c88 := (h_lcr hz87).2.2.1 c88
        clear hz87
        refine h_iconst (pc' := 14) (x := (Int32.ofInt 1)) rfl rfl rfl ?_
        refine h_goto (pc' := 18) rfl rfl ?_
        refine h_zret rfl rfl ci_1 (by omega) (h_Kv ?_)
        refine h_zne (tg := 12) (pc' := 10) rfl rfl rfl ci_1 (fun c89 => ?_) (fun c89 => absurd c89 (by omega))
        refine h_aload_n (pc' := 13) rfl rfl rfl ?_
        refine h_iconst (pc' := 14) (x := (Int32.ofInt 0)) rfl rfl rfl ?_
        refine h_bipush (pc' := 16) (x := (Int32.ofInt 44)) rfl rfl cb_44 ?_
        refine h_iload_n (pc' := 17) rfl rfl rfl ?_
        refine h_iconst (pc' := 18) (x := (Int32.ofInt 1)) rfl rfl rfl ?_
        refine h_iadd (pc' := 19) rfl rfl hz83 ci_1 rfl (by have g0 := h_rgv hz83; omega) (by have g0 := h_rgv hz83; omega) (fun z90 hz90 => ?_)
        refine h_imul (pc' := 20) rfl rfl ci_44 hz90 rfl (by omega) (by omega) (fun z91 hz91 => ?_)
        have qz91 : z91 = (Int32.ofInt 88) := h_lit (show z91.toInt = 88 by omega) ci_88
        subst qz91
        refine h_call (sp := false) (pc' := 23) (M := [(0, .ref 98), (1, .int (Int32.ofInt 0)), (2, .int (Int32.ofInt 88))]) rfl rfl rfl rfl rfl rfl rfl rfl ?_
        refine n_copies_0_88 _ Is81   (fun s93 Is93 Gs93 ps93_0 => h_Kn ?_)
        have Zs93 : ∀ i, s93 0 i = s0 0 i := fun i => (Gs93 0 i rfl).trans (Zs81 i)
        have Fs93 : h_F (fun _ _ => true) s93 s0 := fun _ _ h => by cases h
        have es93_0 : s93 64 1 = s0 64 1 := (Gs93 64 1 rfl).trans es81.1
        have es93_1 : s93 98 11 = s0 98 11 := (Gs93 98 11 rfl).trans es81.2.1
        have es93_2 : s93 64 4 = s0 64 4 := (Gs93 64 4 rfl).trans es81.2.2.1
        have es93_3 : s93 98 16 = s0 98 16 := (Gs93 98 16 rfl).trans es81.2.2.2.1
        have es93_4 : s93 63 2 = s0 63 2 := (Gs93 63 2 rfl).trans es81.2.2.2.2.1
        have es93_5 : s93 10 8 = s0 10 8 := (Gs93 10 8 rfl).trans es81.2.2.2.2.2.1
        have es93_6 : s93 98 1 = s0 98 1 := (Gs93 98 1 rfl).trans es81.2.2.2.2.2.2.1
        have es93_7 : s93 10 9 = s0 10 9 := (Gs93 10 9 rfl).trans es81.2.2.2.2.2.2.2.1
        have es93_8 : s93 98 2 = s0 98 2 := (Gs93 98 2 rfl).trans es81.2.2.2.2.2.2.2.2.1
        have es93_9 : s93 10 10 = s0 10 10 := (Gs93 10 10 rfl).trans es81.2.2.2.2.2.2.2.2.2.1
        have es93_10 : s93 99 43 = s0 99 43 := (Gs93 99 43 rfl).trans es81.2.2.2.2.2.2.2.2.2.2.1
        have es93_11 : s93 13 2 = s0 13 2 := (Gs93 13 2 rfl).trans es81.2.2.2.2.2.2.2.2.2.2.2.1
        have es93_12 : s93 99 18 = s0 99 18 := (Gs93 99 18 rfl).trans es81.2.2.2.2.2.2.2.2.2.2.2.2.1
        have es93_13 : s93 16 2 = s0 16 2 := (Gs93 16 2 rfl).trans es81.2.2.2.2.2.2.2.2.2.2.2.2.2.1
        have es93_14 : s93 99 25 = s0 99 25 := (Gs93 99 25 rfl).trans es81.2.2.2.2.2.2.2.2.2.2.2.2.2.2.1
        have es93_15 : s93 62 0 = s0 62 0 := (Gs93 62 0 rfl).trans es81.2.2.2.2.2.2.2.2.2.2.2.2.2.2.2.1
        have es93_16 : s93 110 0 = s0 110 0 := (Gs93 110 0 rfl).trans es81.2.2.2.2.2.2.2.2.2.2.2.2.2.2.2.2.1
        have es93_17 : s93 62 1 = 1 := (Gs93 62 1 rfl).trans es81.2.2.2.2.2.2.2.2.2.2.2.2.2.2.2.2.2.1
        have es93_18 : s93 110 1 = s0 110 1 := (Gs93 110 1 rfl).trans es81.2.2.2.2.2.2.2.2.2.2.2.2.2.2.2.2.2.2.1
        refine h_aload_n (pc' := 24) rfl rfl rfl ?_
        refine h_getR (pc' := 27) rfl rfl rfl rfl rfl ?_
        refine h_iload_n (pc' := 28) rfl rfl rfl ?_
        have qz83 : z83 = (Int32.ofInt 1) := h_lit (show z83.toInt = 1 by omega) ci_1
        subst qz83
        refine h_bald (pc' := 29) (v := s0 110 1) rfl rfl rfl ci_1 (by omega) (by omega) es93_18 (fun z94 hz94 => ?_)
        have tz94 := ty_110 I0 1
        refine h_zeq (tg := 36) (pc' := 32) rfl rfl rfl hz94 (fun c95 => absurd c95 (by omega)) (fun c95 => ?_)
        refine h_iconst (pc' := 33) (x := (Int32.ofInt 1)) rfl rfl rfl ?_
        refine h_goto (pc' := 37) rfl rfl ?_
        refine h_istore_n (pc' := 38) (M := [(2, .int (Int32.ofInt 1)), (0, .ref 98), (1, .int (Int32.ofInt 1))]) rfl rfl rfl rfl ?_
        refine h_aload_n (pc' := 39) rfl rfl rfl ?_
        refine h_getR (pc' := 42) rfl rfl rfl rfl rfl ?_
        refine h_iload_n (pc' := 43) rfl rfl rfl ?_
        refine h_iconst (pc' := 44) (x := (Int32.ofInt 1)) rfl rfl rfl ?_
        refine h_bast (pc' := 45) rfl rfl rfl rfl ci_1 (by omega) (by omega) ci_1 (by omega) (h_fgt (E := fun s => s 64 1 = s0 64 1 ∧ s 98 11 = s0 98 11 ∧ s 64 4 = s0 64 4 ∧ s 98 16 = s0 98 16 ∧ s 63 2 = s0 63 2 ∧ s 10 8 = s0 10 8 ∧ s 98 1 = s0 98 1 ∧ s 10 9 = s0 10 9 ∧ s 98 2 = s0 98 2 ∧ s 10 10 = s0 10 10 ∧ s 99 43 = s0 99 43 ∧ s 13 2 = s0 13 2 ∧ s 99 18 = s0 99 18 ∧ s 16 2 = s0 16 2 ∧ s 99 25 = s0 99 25 ∧ s 62 0 = s0 62 0 ∧ s 110 0 = s0 110 0 ∧ s 62 1 = 1 ∧ s 110 1 = 1 ∧ s = h_up s93 110 1 1) _ (in_110 Is93 (by omega)) (Fs93.up rfl) ⟨es93_0, es93_1, es93_2, es93_3, es93_4, es93_5, es93_6, es93_7, es93_8, es93_9, es93_10, es93_11, es93_12, es93_13, es93_14, es93_15, es93_16, es93_17, rfl, rfl⟩ (fun s96 Is96 Fs96 (es96 : s96 64 1 = s0 64 1 ∧ s96 98 11 = s0 98 11 ∧ s96 64 4 = s0 64 4 ∧ s96 98 16 = s0 98 16 ∧ s96 63 2 = s0 63 2 ∧ s96 10 8 = s0 10 8 ∧ s96 98 1 = s0 98 1 ∧ s96 10 9 = s0 10 9 ∧ s96 98 2 = s0 98 2 ∧ s96 10 10 = s0 10 10 ∧ s96 99 43 = s0 99 43 ∧ s96 13 2 = s0 13 2 ∧ s96 99 18 = s0 99 18 ∧ s96 16 2 = s0 16 2 ∧ s96 99 25 = s0 99 25 ∧ s96 62 0 = s0 62 0 ∧ s96 110 0 = s0 110 0 ∧ s96 62 1 = 1 ∧ s96 110 1 = 1 ∧ s96 = h_up s93 110 1 1) => ?_))
        have us96 := es96.2.2.2.2.2.2.2.2.2.2.2.2.2.2.2.2.2.2.2
        have Zs96 : ∀ i, s96 0 i = s0 0 i := fun i => (h_upo us96 rfl i).trans (Zs93 i)
        refine h_iload_n (pc' := 46) rfl rfl rfl ?_
        refine h_iret rfl rfl (h_Kv ?_)
        refine h_pop (pc' := 1240) rfl rfl rfl ?_
        refine h_goto (pc' := 1441) rfl rfl ?_
        exact kk _ Is96 (by first | exact d_tape.le j0 (Int.le_antisymm (by omega) (by omega)) (by omega) (fun j => (h_upo us96 rfl j).trans ((Gs93 65 j rfl).trans ((h_upo us81 rfl j).trans ((Gs80 65 j rfl))))) (fun j => (h_upo us96 rfl j).trans ((Gs93 102 j rfl).trans ((h_upo us81 rfl j).trans ((Gs80 102 j rfl))))) | (exfalso; omega)) (Int.le_antisymm (by omega) (by omega)) (c_R.keep1 j2 I0 (Int.le_antisymm (by omega) (by omega)) (Int.le_antisymm (by omega) (by omega)) ((c_eq.up us96 rfl).tr ((c_eq.fr (fl := false) Gs93 rfl).tr ((c_eq.up us81 rfl).tr (c_eq.fr (fl := false) Gs80 rfl)))) ((c_eq.up us96 rfl).tr ((c_eq.fr (fl := false) Gs93 rfl).tr ((c_eq.up us81 rfl).tr (c_eq.fr (fl := false) Gs80 rfl)))) (((c_eq.up us96 rfl).tr ((c_eq.fr (fl := false) Gs93 rfl).tr (c_eq.up us81 rfl))).tr (ps80_0.wk.tr c_eq.rf)) ((((c_pg.fr (fl := false) (o := 0) Gs80 rfl).tr (c_pg.all (fun j _ _ => h_upo us81 rfl _))).tr (c_pg.fr (fl := false) (o := 0) Gs93 rfl)).tr (c_pg.all (fun j _ _ => h_upo us96 rfl _))) ((((c_pg.fr (fl := false) (o := 44) Gs80 rfl).tr (c_pg.all (fun j _ _ => h_upo us81 rfl _))).tr (c_pg.fr (fl := false) (o := 44) Gs93 rfl)).tr (c_pg.all (fun j _ _ => h_upo us96 rfl _))) (fun j a b => (((h_upo us96 rfl _)).trans (ps93_0 j a b)).trans ((h_upo us81 rfl _).trans ((Gs80.no (q := 99) (l := 0) (u := 43) (j := 0 + j) rfl (by omega) (by omega))))) (Int.le_antisymm (by omega) (by omega)) (Int.le_antisymm (by omega) (by omega)) (Int.le_antisymm (by omega) (by omega)) (Int.le_antisymm (by omega) (by omega)))
set_option maxHeartbeats 100000000 in
theorem g_case_1243 {ns : Nat} (hns : ns ≤ 320) (s0 : h_S) (I0 : h_I s0) (j0 : d_tape s0 s0) (j1 : s0 64 4 = s0 98 16) (j2 : c_R false s0) (y3 : Int32) (b3 : Int) (hy3 : y3.toInt = b3) (hr : 0 ≤ b3 ∧ b3 + 5 ≤ ns) {Q : Option Value → h_S → Prop} (kk : ∀ τ, h_I τ → (d_tape τ τ) → (τ 64 4 = τ 98 16) → (c_R false τ) → h_T g_P (g_Y ns) 225 1441 [(0, .ref 0), (1, .ref 9), (2, .ref 98), (3, .int y3)] [] τ Q) : h_T g_P (g_Y ns) 225 1243 [(0, .ref 0), (1, .ref 9), (2, .ref 98), (3, .int y3)] [] s0 Q := by
  have F0_ : h_F (fun _ _ => true) s0 s0 := h_F.rf
  have j0_ := j0.2
  have i0 := tf_64_1 I0
  have i1 := tf_98_11 I0
  have i2 := tf_64_4 I0
  have i3 := tf_98_16 I0
  have i4 := tf_63_2 I0
  have i5 := tf_10_8 I0
  have i6 := tf_98_1 I0
  have i7 := tf_10_9 I0
  have i8 := tf_98_2 I0
  have i9 := tf_10_10 I0
  have i11 := tf_13_2 I0
  have i13 := tf_16_2 I0
  have j2_ := j2.sz
  have j2i := j2.2.2.1
  have y43 := ty_99_10 I0 43 (by omega)
  have y18 := ty_99_3 I0 18 (by omega)
  have y25 := ty_99_5 I0 25 (by omega)
  have y62_0 := ty_62 I0 0
  have y62_1 := ty_62 I0 1
  have y110_0 := ty_110 I0 0
  have y110_1 := ty_110 I0 1
  refine h_aload_n (pc' := 1244) rfl rfl rfl ?_
  refine h_aload_n (pc' := 1245) rfl rfl rfl ?_
  refine h_iload_n (pc' := 1246) rfl rfl rfl ?_
  refine h_iconst (pc' := 1247) (x := (Int32.ofInt 1)) rfl rfl rfl ?_
  refine h_iadd (pc' := 1248) rfl rfl hy3 ci_1 rfl (by omega) (by omega) (fun z1 hz1 => ?_)
  refine h_iald (pc' := 1249) (v := s0 0 (b3 + 1)) rfl rfl rfl hz1 (by omega) (by omega) rfl (fun z2 hz2 => ?_)
  have tz2 := h_rgv hz2
  refine h_call (sp := false) (pc' := 1252) (M := [(0, .ref 9), (1, .int z2)]) rfl rfl rfl rfl rfl rfl rfl rfl ?_
  refine h_iload_n (pc' := 1) rfl rfl rfl ?_
  refine h_calls (pc' := 4) (M := [(0, .int z2)]) rfl rfl rfl rfl rfl rfl ?_
  refine h_iload_n (pc' := 1) rfl rfl rfl ?_
  refine h_zeq (tg := 9) (pc' := 4) rfl rfl rfl hz2 (fun c3 => ?_) (fun c3 => ?_)
  · refine h_iconst (pc' := 10) (x := (Int32.ofInt 1)) rfl rfl rfl ?_
    refine h_goto (pc' := 14) rfl rfl ?_
    refine h_zret rfl rfl ci_1 (by omega) (h_Kv ?_)
    refine h_zne (tg := 9) (pc' := 7) rfl rfl rfl ci_1 (fun c4 => ?_) (fun c4 => absurd c4 (by omega))
    refine h_aload_n (pc' := 10) rfl rfl rfl ?_
    refine h_getR (pc' := 13) rfl rfl rfl rfl rfl ?_
    refine h_iload_n (pc' := 14) rfl rfl rfl ?_
    have qz2 : z2 = (Int32.ofInt 0) := h_lit (show z2.toInt = 0 by omega) ci_0
    subst qz2
    refine h_bald (pc' := 15) (v := s0 62 0) rfl rfl rfl ci_0 (by omega) (by omega) rfl (fun z5 hz5 => ?_)
    have tz5 := ty_62 I0 0
    refine h_zne (tg := 21) (pc' := 18) rfl rfl rfl hz5 (fun c6 => ?_) (fun c6 => ?_)
    · refine h_aload_n (pc' := 22) rfl rfl rfl ?_
      refine h_getR (pc' := 25) rfl rfl rfl rfl rfl ?_
      refine h_aload_n (pc' := 26) rfl rfl rfl ?_
      refine h_iload_n (pc' := 27) rfl rfl rfl ?_
      refine h_call (sp := false) (pc' := 30) (M := [(0, .ref 9), (1, .int (Int32.ofInt 0))]) rfl rfl rfl rfl rfl rfl rfl rfl ?_
      refine h_iload_n (pc' := 1) rfl rfl rfl ?_
      refine h_zne (tg := 11) (pc' := 4) rfl rfl rfl ci_0 (fun c7 => absurd (Int.le_antisymm (by omega) (by omega)) c7) (fun c7 => ?_)
      refine h_aload_n (pc' := 5) rfl rfl rfl ?_
      refine h_getR (pc' := 8) rfl rfl rfl rfl rfl ?_
      refine h_goto (pc' := 15) rfl rfl ?_
      refine h_aret rfl rfl (h_Kv ?_)
      refine h_call (sp := false) (pc' := 33) (M := [(0, .ref 10), (1, .ref 36)]) rfl rfl rfl rfl rfl rfl rfl rfl ?_
      refine n_copy_10_36 _ I0  (fun s9 Is9 Gs9 ps9_0 => h_Kn ?_)
      have Zs9 : ∀ i, s9 0 i = s0 0 i := fun i => (Gs9 0 i rfl).trans rfl
      have Fs9 : h_F (fun _ _ => true) s9 s0 := fun _ _ h => by cases h
      have es9_0 : s9 64 1 = s0 64 1 := (Gs9 64 1 rfl).trans rfl
      have es9_1 : s9 98 11 = s0 98 11 := (Gs9 98 11 rfl).trans rfl
      have es9_2 : s9 64 4 = s0 64 4 := (Gs9 64 4 rfl).trans rfl
      have es9_3 : s9 98 16 = s0 98 16 := (Gs9 98 16 rfl).trans rfl
      have es9_4 : s9 63 2 = s0 63 2 := (Gs9 63 2 rfl).trans rfl
      have es9_6 : s9 98 1 = s0 98 1 := (Gs9 98 1 rfl).trans rfl
      have es9_8 : s9 98 2 = s0 98 2 := (Gs9 98 2 rfl).trans rfl
      have es9_10 : s9 99 43 = s0 99 43 := (Gs9 99 43 rfl).trans rfl
      have es9_12 : s9 99 18 = s0 99 18 := (Gs9 99 18 rfl).trans rfl
      have es9_14 : s9 99 25 = s0 99 25 := (Gs9 99 25 rfl).trans rfl
      have es9_15 : s9 62 0 = s0 62 0 := (Gs9 62 0 rfl).trans rfl
      have es9_16 : s9 110 0 = s0 110 0 := (Gs9 110 0 rfl).trans rfl
      have es9_17 : s9 62 1 = s0 62 1 := (Gs9 62 1 rfl).trans rfl
      have es9_18 : s9 110 1 = s0 110 1 := (Gs9 110 1 rfl).trans rfl
      refine h_aload_n (pc' := 34) rfl rfl rfl ?_
      refine h_getR (pc' := 37) rfl rfl rfl rfl rfl ?_
      refine h_call (sp := false) (pc' := 40) (M := [(0, .ref 10)]) rfl rfl rfl rfl rfl rfl rfl rfl ?_
      refine w_11_10 _ Is9  (fun r10 br10 hr10 s11 Is11 Gs11 => h_Kv ?_)
      have Zs11 : ∀ i, s11 0 i = s0 0 i := fun i => (Gs11 0 i rfl).trans (Zs9 i)
      have Fs11 : h_F (fun _ _ => true) s11 s0 := fun _ _ h => by cases h
      have es11_0 : s11 64 1 = s0 64 1 := (Gs11 64 1 rfl).trans es9_0
      have es11_1 : s11 98 11 = s0 98 11 := (Gs11 98 11 rfl).trans es9_1
      have es11_2 : s11 64 4 = s0 64 4 := (Gs11 64 4 rfl).trans es9_2
      have es11_3 : s11 98 16 = s0 98 16 := (Gs11 98 16 rfl).trans es9_3
      have es11_4 : s11 63 2 = s0 63 2 := (Gs11 63 2 rfl).trans es9_4
      have es11_5 : s11 10 8 = s9 10 8 := (Gs11 10 8 rfl).trans rfl
      have es11_6 : s11 98 1 = s0 98 1 := (Gs11 98 1 rfl).trans es9_6
      have es11_7 : s11 10 9 = s9 10 9 := (Gs11 10 9 rfl).trans rfl
      have es11_8 : s11 98 2 = s0 98 2 := (Gs11 98 2 rfl).trans es9_8
      have es11_9 : s11 10 10 = s9 10 10 := (Gs11 10 10 rfl).trans rfl
      have es11_10 : s11 99 43 = s0 99 43 := (Gs11 99 43 rfl).trans es9_10
      have es11_11 : s11 13 2 = s9 13 2 := (Gs11 13 2 rfl).trans rfl
      have es11_12 : s11 99 18 = s0 99 18 := (Gs11 99 18 rfl).trans es9_12
      have es11_13 : s11 16 2 = s9 16 2 := (Gs11 16 2 rfl).trans rfl
      have es11_14 : s11 99 25 = s0 99 25 := (Gs11 99 25 rfl).trans es9_14
      have es11_15 : s11 62 0 = s0 62 0 := (Gs11 62 0 rfl).trans es9_15
      have es11_16 : s11 110 0 = s0 110 0 := (Gs11 110 0 rfl).trans es9_16
      have es11_17 : s11 62 1 = s0 62 1 := (Gs11 62 1 rfl).trans es9_17
      have es11_18 : s11 110 1 = s0 110 1 := (Gs11 110 1 rfl).trans es9_18
      refine h_iret rfl rfl (h_Kv ?_)
      refine h_pop (pc' := 1253) rfl rfl rfl ?_
      refine h_aload_n (pc' := 1254) rfl rfl rfl ?_
      refine h_aload_n (pc' := 1255) rfl rfl rfl ?_
      refine h_iload_n (pc' := 1256) rfl rfl rfl ?_
      refine h_iconst (pc' := 1257) (x := (Int32.ofInt 1)) rfl rfl rfl ?_
      refine h_iadd (pc' := 1258) rfl rfl hy3 ci_1 rfl (by omega) (by omega) (fun z12 hz12 => ?_)
      refine h_iald (pc' := 1259) (v := s0 0 (b3 + 1)) rfl rfl rfl hz12 (by omega) (by omega) (Zs11 _) (fun z13 hz13 => ?_)
      have tz13 := h_rgv hz13
      refine h_call (sp := false) (pc' := 1262) (M := [(0, .ref 98), (1, .int z13)]) rfl rfl rfl rfl rfl rfl rfl rfl ?_
      refine h_iload_n (pc' := 1) rfl rfl rfl ?_
      refine h_i2l (pc' := 2) rfl rfl hz13 (fun z14 hz14 => ?_)
      refine h_lconst (pc' := 3) (x := (Int64.ofInt 0)) rfl rfl rfl ?_
      refine h_lconst (pc' := 4) (x := (Int64.ofInt 1)) rfl rfl rfl ?_
      refine h_calls (pc' := 7) (M := [(0, .long z14), (2, .long (Int64.ofInt 0)), (4, .long (Int64.ofInt 1))]) rfl rfl rfl rfl rfl rfl ?_
      refine h_lload_n (pc' := 1) rfl rfl rfl ?_
      refine h_lload_n (pc' := 2) rfl rfl rfl ?_
      refine h_lcmp (pc' := 3) rfl rfl hz14 cl_0 (fun z15 hz15 => ?_)
      refine h_zlt (tg := 17) (pc' := 6) rfl rfl rfl rfl (fun c16 => absurd c16 (by omega)) (fun c16 => ?_)
      replace c16 := (h_lcr hz15).2.1 c16
      clear hz15
      refine h_lload_n (pc' := 7) rfl rfl rfl ?_
      refine h_lload (pc' := 9) rfl rfl rfl ?_
      refine h_lcmp (pc' := 10) rfl rfl hz14 cl_1 (fun z17 hz17 => ?_)
      refine h_zgt (tg := 17) (pc' := 13) rfl rfl rfl rfl (fun c18 => absurd c18 (by omega)) (fun c18 => ?_)
      replace c18 := (h_lcr hz17).2.2.1 c18
      clear hz17
      refine h_iconst (pc' := 14) (x := (Int32.ofInt 1)) rfl rfl rfl ?_
      refine h_goto (pc' := 18) rfl rfl ?_
      refine h_zret rfl rfl ci_1 (by omega) (h_Kv ?_)
      refine h_zne (tg := 12) (pc' := 10) rfl rfl rfl ci_1 (fun c19 => ?_) (fun c19 => absurd c19 (by omega))
      refine h_aload_n (pc' := 13) rfl rfl rfl ?_
      refine h_getR (pc' := 16) rfl rfl rfl rfl rfl ?_
      refine h_iload_n (pc' := 17) rfl rfl rfl ?_
      have qz13 : z13 = (Int32.ofInt 0) := h_lit (show z13.toInt = 0 by omega) ci_0
      subst qz13
      refine h_bald (pc' := 18) (v := s0 110 0) rfl rfl rfl ci_0 (by omega) (by omega) es11_16 (fun z20 hz20 => ?_)
      have tz20 := ty_110 I0 0
      refine h_zne (tg := 24) (pc' := 21) rfl rfl rfl hz20 (fun c21 => ?_) (fun c21 => absurd c21 (by omega))
      refine h_aload_n (pc' := 25) rfl rfl rfl ?_
      refine h_bipush (pc' := 27) (x := (Int32.ofInt 44)) rfl rfl cb_44 ?_
      refine h_iload_n (pc' := 28) rfl rfl rfl ?_
      refine h_iconst (pc' := 29) (x := (Int32.ofInt 1)) rfl rfl rfl ?_
      refine h_iadd (pc' := 30) (c := 1) rfl rfl ci_0 ci_1 rfl (by omega) (by omega) (fun z22 hz22 => ?_)
      refine h_imul (pc' := 31) (c := 44) rfl rfl ci_44 hz22 rfl (by omega) (by omega) (fun z23 hz23 => ?_)
      refine h_iconst (pc' := 32) (x := (Int32.ofInt 0)) rfl rfl rfl ?_
      have qz23 : z23 = (Int32.ofInt 44) := h_lit hz23 ci_44
      subst qz23
      refine h_call (sp := false) (pc' := 35) (M := [(0, .ref 98), (1, .int (Int32.ofInt 44)), (2, .int (Int32.ofInt 0))]) rfl rfl rfl rfl rfl rfl rfl rfl ?_
      refine n_copies_44_0 _ Is11   (fun s25 Is25 Gs25 ps25_0 => h_Kn ?_)
      have Zs25 : ∀ i, s25 0 i = s0 0 i := fun i => (Gs25 0 i rfl).trans (Zs11 i)
      have Fs25 : h_F (fun _ _ => true) s25 s0 := fun _ _ h => by cases h
      have es25_0 : s25 64 1 = s0 64 1 := (Gs25 64 1 rfl).trans es11_0
      have es25_1 : s25 98 11 = s0 98 11 := (Gs25 98 11 rfl).trans es11_1
      have es25_2 : s25 64 4 = s0 64 4 := (Gs25 64 4 rfl).trans es11_2
      have es25_3 : s25 98 16 = s0 98 16 := (Gs25 98 16 rfl).trans es11_3
      have es25_4 : s25 63 2 = s0 63 2 := (Gs25 63 2 rfl).trans es11_4
      have es25_5 : s25 10 8 = s9 10 8 := (Gs25 10 8 rfl).trans es11_5
      have es25_6 : s25 98 1 = s0 98 1 := (Gs25 98 1 rfl).trans es11_6
      have es25_7 : s25 10 9 = s9 10 9 := (Gs25 10 9 rfl).trans es11_7
      have es25_8 : s25 98 2 = s0 98 2 := (Gs25 98 2 rfl).trans es11_8
      have es25_9 : s25 10 10 = s9 10 10 := (Gs25 10 10 rfl).trans es11_9
      have es25_11 : s25 13 2 = s9 13 2 := (Gs25 13 2 rfl).trans es11_11
      have es25_13 : s25 16 2 = s9 16 2 := (Gs25 16 2 rfl).trans es11_13
      have es25_15 : s25 62 0 = s0 62 0 := (Gs25 62 0 rfl).trans es11_15
      have es25_16 : s25 110 0 = s0 110 0 := (Gs25 110 0 rfl).trans es11_16
      have es25_17 : s25 62 1 = s0 62 1 := (Gs25 62 1 rfl).trans es11_17
      have es25_18 : s25 110 1 = s0 110 1 := (Gs25 110 1 rfl).trans es11_18
      refine h_aload_n (pc' := 36) rfl rfl rfl ?_
      refine h_call (sp := false) (pc' := 39) (M := [(0, .ref 98)]) rfl rfl rfl rfl rfl rfl rfl rfl ?_
      refine w_159_98 _ Is25  (fun r26 br26 hr26 s27 Is27 Gs27 => h_Kv ?_)
      have Zs27 : ∀ i, s27 0 i = s0 0 i := fun i => (Gs27 0 i rfl).trans (Zs25 i)
      have Fs27 : h_F (fun _ _ => true) s27 s0 := fun _ _ h => by cases h
      have es27_0 : s27 64 1 = s0 64 1 := (Gs27 64 1 rfl).trans es25_0
      have es27_1 : s27 98 11 = s0 98 11 := (Gs27 98 11 rfl).trans es25_1
      have es27_2 : s27 64 4 = s0 64 4 := (Gs27 64 4 rfl).trans es25_2
      have es27_3 : s27 98 16 = s0 98 16 := (Gs27 98 16 rfl).trans es25_3
      have es27_4 : s27 63 2 = s0 63 2 := (Gs27 63 2 rfl).trans es25_4
      have es27_5 : s27 10 8 = s9 10 8 := (Gs27 10 8 rfl).trans es25_5
      have es27_6 : s27 98 1 = s0 98 1 := (Gs27 98 1 rfl).trans es25_6
      have es27_7 : s27 10 9 = s9 10 9 := (Gs27 10 9 rfl).trans es25_7
      have es27_8 : s27 98 2 = s0 98 2 := (Gs27 98 2 rfl).trans es25_8
      have es27_9 : s27 10 10 = s9 10 10 := (Gs27 10 10 rfl).trans es25_9
      have es27_10 : s27 99 43 = s25 99 43 := (Gs27 99 43 rfl).trans rfl
      have es27_11 : s27 13 2 = s9 13 2 := (Gs27 13 2 rfl).trans es25_11
      have es27_12 : s27 99 18 = s25 99 18 := (Gs27 99 18 rfl).trans rfl
      have es27_13 : s27 16 2 = s9 16 2 := (Gs27 16 2 rfl).trans es25_13
      have es27_14 : s27 99 25 = s25 99 25 := (Gs27 99 25 rfl).trans rfl
      have es27_15 : s27 62 0 = s0 62 0 := (Gs27 62 0 rfl).trans es25_15
      have es27_16 : s27 110 0 = s0 110 0 := (Gs27 110 0 rfl).trans es25_16
      have es27_17 : s27 62 1 = s0 62 1 := (Gs27 62 1 rfl).trans es25_17
      have es27_18 : s27 110 1 = s0 110 1 := (Gs27 110 1 rfl).trans es25_18
      refine h_iret rfl rfl (h_Kv ?_)
      refine h_pop (pc' := 1263) rfl rfl rfl ?_
      refine h_goto (pc' := 1441) rfl rfl ?_
      exact kk _ Is27 (by first | exact d_tape.le j0 (Int.le_antisymm (by omega) (by omega)) (by omega) (fun j => (Gs27 65 j rfl).trans ((Gs25 65 j rfl).trans ((Gs11 65 j rfl).trans ((Gs9 65 j rfl))))) (fun j => (Gs27 102 j rfl).trans ((Gs25 102 j rfl).trans ((Gs11 102 j rfl).trans ((Gs9 102 j rfl))))) | (exfalso; omega)) (Int.le_antisymm (by omega) (by omega)) (c_R.back0 j2 I0 (by omega) (Int.le_antisymm (by omega) (by omega)) (Int.le_antisymm (by omega) (by omega)) (((c_eq.fr (fl := false) Gs27 rfl).tr ((c_eq.fr (fl := false) Gs25 rfl).tr (c_eq.fr (fl := false) Gs11 rfl))).tr (ps9_0.wk.tr c_eq.rf)) ((c_eq.fr (fl := false) Gs27 rfl).tr ((c_eq.fr (fl := false) Gs25 rfl).tr ((c_eq.fr (fl := false) Gs11 rfl).tr (c_eq.fr (fl := false) Gs9 rfl)))) ((c_eq.fr (fl := false) Gs27 rfl).tr ((c_eq.fr (fl := false) Gs25 rfl).tr ((c_eq.fr (fl := false) Gs11 rfl).tr (c_eq.fr (fl := false) Gs9 rfl)))) (fun j a b => (((Gs27.no (q := 99) (l := 0) (u := 43) (j := 0 + j) rfl (by omega) (by omega))).trans (ps25_0 j a b)).trans ((Gs11.no (q := 99) (l := 44) (u := 87) (j := 44 + j) rfl (by omega) (by omega)).trans ((Gs9.no (q := 99) (l := 44) (u := 87) (j := 44 + j) rfl (by omega) (by omega))))) ((((c_pg.fr (fl := false) (o := 44) Gs9 rfl).tr (c_pg.fr (fl := false) (o := 44) Gs11 rfl)).tr (c_pg.fr (fl := false) (o := 44) Gs25 rfl)).tr (c_pg.fr (fl := false) (o := 44) Gs27 rfl)) ((((c_pg.fr (fl := false) (o := 88) Gs9 rfl).tr (c_pg.fr (fl := false) (o := 88) Gs11 rfl)).tr (c_pg.fr (fl := false) (o := 88) Gs25 rfl)).tr (c_pg.fr (fl := false) (o := 88) Gs27 rfl)) (Int.le_antisymm (by omega) (by omega)) (Int.le_antisymm (by omega) (by omega)) (Int.le_antisymm (by omega) (by omega)) (Int.le_antisymm (by omega) (by omega)))
    · refine h_bipush (pc' := 20) (x := (Int32.ofInt (-2))) rfl rfl cb_m2 ?_
      refine h_iret rfl rfl (h_Kv ?_)
      refine h_pop (pc' := 1253) rfl rfl rfl ?_
      refine h_aload_n (pc' := 1254) rfl rfl rfl ?_
      refine h_aload_n (pc' := 1255) rfl rfl rfl ?_
      refine h_iload_n (pc' := 1256) rfl rfl rfl ?_
      refine h_iconst (pc' := 1257) (x := (Int32.ofInt 1)) rfl rfl rfl ?_
      refine h_iadd (pc' := 1258) rfl rfl hy3 ci_1 rfl (by omega) (by omega) (fun z28 hz28 => ?_)
      refine h_iald (pc' := 1259) (v := s0 0 (b3 + 1)) rfl rfl rfl hz28 (by omega) (by omega) rfl (fun z29 hz29 => ?_)
      have tz29 := h_rgv hz29
      refine h_call (sp := false) (pc' := 1262) (M := [(0, .ref 98), (1, .int z29)]) rfl rfl rfl rfl rfl rfl rfl rfl ?_
      refine h_iload_n (pc' := 1) rfl rfl rfl ?_
      refine h_i2l (pc' := 2) rfl rfl hz29 (fun z30 hz30 => ?_)
      refine h_lconst (pc' := 3) (x := (Int64.ofInt 0)) rfl rfl rfl ?_
      refine h_lconst (pc' := 4) (x := (Int64.ofInt 1)) rfl rfl rfl ?_
      refine h_calls (pc' := 7) (M := [(0, .long z30), (2, .long (Int64.ofInt 0)), (4, .long (Int64.ofInt 1))]) rfl rfl rfl rfl rfl rfl ?_
      refine h_lload_n (pc' := 1) rfl rfl rfl ?_
      refine h_lload_n (pc' := 2) rfl rfl rfl ?_
      refine h_lcmp (pc' := 3) rfl rfl hz30 cl_0 (fun z31 hz31 => ?_)
      refine h_zlt (tg := 17) (pc' := 6) rfl rfl rfl rfl (fun c32 => absurd c32 (by omega)) (fun c32 => ?_)
      replace c32 := (h_lcr hz31).2.1 c32
      clear hz31
      refine h_lload_n (pc' := 7) rfl rfl rfl ?_
      refine h_lload (pc' := 9) rfl rfl rfl ?_
      refine h_lcmp (pc' := 10) rfl rfl hz30 cl_1 (fun z33 hz33 => ?_)
      refine h_zgt (tg := 17) (pc' := 13) rfl rfl rfl rfl (fun c34 => absurd c34 (by omega)) (fun c34 => ?_)
      replace c34 := (h_lcr hz33).2.2.1 c34
      clear hz33
      refine h_iconst (pc' := 14) (x := (Int32.ofInt 1)) rfl rfl rfl ?_
      refine h_goto (pc' := 18) rfl rfl ?_
      refine h_zret rfl rfl ci_1 (by omega) (h_Kv ?_)
      refine h_zne (tg := 12) (pc' := 10) rfl rfl rfl ci_1 (fun c35 => ?_) (fun c35 => absurd c35 (by omega))
      refine h_aload_n (pc' := 13) rfl rfl rfl ?_
      refine h_getR (pc' := 16) rfl rfl rfl rfl rfl ?_
      refine h_iload_n (pc' := 17) rfl rfl rfl ?_
      have qz29 : z29 = (Int32.ofInt 0) := h_lit (show z29.toInt = 0 by omega) ci_0
      subst qz29
      refine h_bald (pc' := 18) (v := s0 110 0) rfl rfl rfl ci_0 (by omega) (by omega) rfl (fun z36 hz36 => ?_)
      have tz36 := ty_110 I0 0
      refine h_zne (tg := 24) (pc' := 21) rfl rfl rfl hz36 (fun c37 => absurd (Int.le_antisymm (by omega) (by omega)) c37) (fun c37 => ?_)
      refine h_bipush (pc' := 23) (x := (Int32.ofInt (-2))) rfl rfl cb_m2 ?_
      refine h_iret rfl rfl (h_Kv ?_)
      refine h_pop (pc' := 1263) rfl rfl rfl ?_
      refine h_goto (pc' := 1441) rfl rfl ?_
      exact kk _ I0 (by first | exact d_tape.le j0 (Int.le_antisymm (by omega) (by omega)) (by omega) (fun j => rfl) (fun j => rfl) | (exfalso; omega)) (Int.le_antisymm (by omega) (by omega)) j2
  · refine h_iload_n (pc' := 5) rfl rfl rfl ?_
    refine h_iconst (pc' := 6) (x := (Int32.ofInt 1)) rfl rfl rfl ?_
    refine h_cne (tg := 13) (pc' := 9) rfl rfl rfl hz2 ci_1 (fun c38 => ?_) (fun c38 => ?_)
    · refine h_iconst (pc' := 14) (x := (Int32.ofInt 0)) rfl rfl rfl ?_
      refine h_zret rfl rfl ci_0 (by omega) (h_Kv ?_)
      refine h_zne (tg := 9) (pc' := 7) rfl rfl rfl ci_0 (fun c39 => absurd (Int.le_antisymm (by omega) (by omega)) c39) (fun c39 => ?_)
      refine h_iconst (pc' := 8) (x := (Int32.ofInt (-1))) rfl rfl rfl ?_
      refine h_iret rfl rfl (h_Kv ?_)
      refine h_pop (pc' := 1253) rfl rfl rfl ?_
      refine h_aload_n (pc' := 1254) rfl rfl rfl ?_
      refine h_aload_n (pc' := 1255) rfl rfl rfl ?_
      refine h_iload_n (pc' := 1256) rfl rfl rfl ?_
      refine h_iconst (pc' := 1257) (x := (Int32.ofInt 1)) rfl rfl rfl ?_
      refine h_iadd (pc' := 1258) rfl rfl hy3 ci_1 rfl (by omega) (by omega) (fun z40 hz40 => ?_)
      refine h_iald (pc' := 1259) (v := s0 0 (b3 + 1)) rfl rfl rfl hz40 (by omega) (by omega) rfl (fun z41 hz41 => ?_)
      have tz41 := h_rgv hz41
      refine h_call (sp := false) (pc' := 1262) (M := [(0, .ref 98), (1, .int z41)]) rfl rfl rfl rfl rfl rfl rfl rfl ?_
      refine h_iload_n (pc' := 1) rfl rfl rfl ?_
      refine h_i2l (pc' := 2) rfl rfl hz41 (fun z42 hz42 => ?_)
      refine h_lconst (pc' := 3) (x := (Int64.ofInt 0)) rfl rfl rfl ?_
      refine h_lconst (pc' := 4) (x := (Int64.ofInt 1)) rfl rfl rfl ?_
      refine h_calls (pc' := 7) (M := [(0, .long z42), (2, .long (Int64.ofInt 0)), (4, .long (Int64.ofInt 1))]) rfl rfl rfl rfl rfl rfl ?_
      refine h_lload_n (pc' := 1) rfl rfl rfl ?_
      refine h_lload_n (pc' := 2) rfl rfl rfl ?_
      refine h_lcmp (pc' := 3) rfl rfl hz42 cl_0 (fun z43 hz43 => ?_)
      refine h_zlt (tg := 17) (pc' := 6) rfl rfl rfl rfl (fun c44 => ?_) (fun c44 => ?_)
      · replace c44 := (h_lcr hz43).1 c44
        clear hz43
        refine h_iconst (pc' := 18) (x := (Int32.ofInt 0)) rfl rfl rfl ?_
        refine h_zret rfl rfl ci_0 (by omega) (h_Kv ?_)
        refine h_zne (tg := 12) (pc' := 10) rfl rfl rfl ci_0 (fun c45 => absurd (Int.le_antisymm (by omega) (by omega)) c45) (fun c45 => ?_)
        refine h_iconst (pc' := 11) (x := (Int32.ofInt (-1))) rfl rfl rfl ?_
        refine h_iret rfl rfl (h_Kv ?_)
        refine h_pop (pc' := 1263) rfl rfl rfl ?_
        refine h_goto (pc' := 1441) rfl rfl ?_
        exact kk _ I0 (by first | exact d_tape.le j0 (Int.le_antisymm (by omega) (by omega)) (by omega) (fun j => rfl) (fun j => rfl) | (exfalso; omega)) (Int.le_antisymm (by omega) (by omega)) j2
      · replace c44 := (h_lcr hz43).2.1 c44
        clear hz43
        refine h_lload_n (pc' := 7) rfl rfl rfl ?_
        refine h_lload (pc' := 9) rfl rfl rfl ?_
        refine h_lcmp (pc' := 10) rfl rfl hz42 cl_1 (fun z46 hz46 => ?_)
        refine h_zgt (tg := 17) (pc' := 13) rfl rfl rfl rfl (fun c47 => ?_) (fun c47 => absurd c47 (by omega))
        replace c47 := (h_lcr hz46).2.2.2.1 c47
        clear hz46
        refine h_iconst (pc' := 18) (x := (Int32.ofInt 0)) rfl rfl rfl ?_
        refine h_zret rfl rfl ci_0 (by omega) (h_Kv ?_)
        refine h_zne (tg := 12) (pc' := 10) rfl rfl rfl ci_0 (fun c48 => absurd (Int.le_antisymm (by omega) (by omega)) c48) (fun c48 => ?_)
        refine h_iconst (pc' := 11) (x := (Int32.ofInt (-1))) rfl rfl rfl ?_
        refine h_iret rfl rfl (h_Kv ?_)
        refine h_pop (pc' := 1263) rfl rfl rfl ?_
        refine h_goto (pc' := 1441) rfl rfl ?_
        exact kk _ I0 (by first | exact d_tape.le j0 (Int.le_antisymm (by omega) (by omega)) (by omega) (fun j => rfl) (fun j => rfl) | (exfalso; omega)) (Int.le_antisymm (by omega) (by omega)) j2
    · refine h_iconst (pc' := 10) (x := (Int32.ofInt 1)) rfl rfl rfl ?_
      refine h_goto (pc' := 14) rfl rfl ?_
      refine h_zret rfl rfl ci_1 (by omega) (h_Kv ?_)
      refine h_zne (tg := 9) (pc' := 7) rfl rfl rfl ci_1 (fun c49 => ?_) (fun c49 => absurd c49 (by omega))
      refine h_aload_n (pc' := 10) rfl rfl rfl ?_
      refine h_getR (pc' := 13) rfl rfl rfl rfl rfl ?_
      refine h_iload_n (pc' := 14) rfl rfl rfl ?_
      have qz2 : z2 = (Int32.ofInt 1) := h_lit (show z2.toInt = 1 by omega) ci_1
      subst qz2
      refine h_bald (pc' := 15) (v := s0 62 1) rfl rfl rfl ci_1 (by omega) (by omega) rfl (fun z50 hz50 => ?_)
      have tz50 := ty_62 I0 1
      refine h_zne (tg := 21) (pc' := 18) rfl rfl rfl hz50 (fun c51 => ?_) (fun c51 => ?_)
      · refine h_aload_n (pc' := 22) rfl rfl rfl ?_
        refine h_getR (pc' := 25) rfl rfl rfl rfl rfl ?_
        refine h_aload_n (pc' := 26) rfl rfl rfl ?_
        refine h_iload_n (pc' := 27) rfl rfl rfl ?_
        refine h_call (sp := false) (pc' := 30) (M := [(0, .ref 9), (1, .int (Int32.ofInt 1))]) rfl rfl rfl rfl rfl rfl rfl rfl ?_
        refine h_iload_n (pc' := 1) rfl rfl rfl ?_
        refine h_zne (tg := 11) (pc' := 4) rfl rfl rfl ci_1 (fun c52 => ?_) (fun c52 => absurd c52 (by omega))
        refine h_aload_n (pc' := 12) rfl rfl rfl ?_
        refine h_getR (pc' := 15) rfl rfl rfl rfl rfl ?_
        refine h_aret rfl rfl (h_Kv ?_)
        refine h_call (sp := false) (pc' := 33) (M := [(0, .ref 10), (1, .ref 49)]) rfl rfl rfl rfl rfl rfl rfl rfl ?_
        refine n_copy_10_49 _ I0  (fun s54 Is54 Gs54 ps54_0 => h_Kn ?_)
        have Zs54 : ∀ i, s54 0 i = s0 0 i := fun i => (Gs54 0 i rfl).trans rfl
        have Fs54 : h_F (fun _ _ => true) s54 s0 := fun _ _ h => by cases h
        have es54_0 : s54 64 1 = s0 64 1 := (Gs54 64 1 rfl).trans rfl
        have es54_1 : s54 98 11 = s0 98 11 := (Gs54 98 11 rfl).trans rfl
        have es54_2 : s54 64 4 = s0 64 4 := (Gs54 64 4 rfl).trans rfl
        have es54_3 : s54 98 16 = s0 98 16 := (Gs54 98 16 rfl).trans rfl
        have es54_4 : s54 63 2 = s0 63 2 := (Gs54 63 2 rfl).trans rfl
        have es54_6 : s54 98 1 = s0 98 1 := (Gs54 98 1 rfl).trans rfl
        have es54_8 : s54 98 2 = s0 98 2 := (Gs54 98 2 rfl).trans rfl
        have es54_10 : s54 99 43 = s0 99 43 := (Gs54 99 43 rfl).trans rfl
        have es54_12 : s54 99 18 = s0 99 18 := (Gs54 99 18 rfl).trans rfl
        have es54_14 : s54 99 25 = s0 99 25 := (Gs54 99 25 rfl).trans rfl
        have es54_15 : s54 62 0 = s0 62 0 := (Gs54 62 0 rfl).trans rfl
        have es54_16 : s54 110 0 = s0 110 0 := (Gs54 110 0 rfl).trans rfl
        have es54_17 : s54 62 1 = s0 62 1 := (Gs54 62 1 rfl).trans rfl
        have es54_18 : s54 110 1 = s0 110 1 := (Gs54 110 1 rfl).trans rfl
        refine h_aload_n (pc' := 34) rfl rfl rfl ?_
        refine h_getR (pc' := 37) rfl rfl rfl rfl rfl ?_
        refine h_call (sp := false) (pc' := 40) (M := [(0, .ref 10)]) rfl rfl rfl rfl rfl rfl rfl rfl ?_
        refine w_11_10 _ Is54  (fun r55 br55 hr55 s56 Is56 Gs56 => h_Kv ?_)
        have Zs56 : ∀ i, s56 0 i = s0 0 i := fun i => (Gs56 0 i rfl).trans (Zs54 i)
        have Fs56 : h_F (fun _ _ => true) s56 s0 := fun _ _ h => by cases h
        have es56_0 : s56 64 1 = s0 64 1 := (Gs56 64 1 rfl).trans es54_0
        have es56_1 : s56 98 11 = s0 98 11 := (Gs56 98 11 rfl).trans es54_1
        have es56_2 : s56 64 4 = s0 64 4 := (Gs56 64 4 rfl).trans es54_2
        have es56_3 : s56 98 16 = s0 98 16 := (Gs56 98 16 rfl).trans es54_3
        have es56_4 : s56 63 2 = s0 63 2 := (Gs56 63 2 rfl).trans es54_4
        have es56_5 : s56 10 8 = s54 10 8 := (Gs56 10 8 rfl).trans rfl
        have es56_6 : s56 98 1 = s0 98 1 := (Gs56 98 1 rfl).trans es54_6
        have es56_7 : s56 10 9 = s54 10 9 := (Gs56 10 9 rfl).trans rfl
        have es56_8 : s56 98 2 = s0 98 2 := (Gs56 98 2 rfl).trans es54_8
        have es56_9 : s56 10 10 = s54 10 10 := (Gs56 10 10 rfl).trans rfl
        have es56_10 : s56 99 43 = s0 99 43 := (Gs56 99 43 rfl).trans es54_10
        have es56_11 : s56 13 2 = s54 13 2 := (Gs56 13 2 rfl).trans rfl
        have es56_12 : s56 99 18 = s0 99 18 := (Gs56 99 18 rfl).trans es54_12
        have es56_13 : s56 16 2 = s54 16 2 := (Gs56 16 2 rfl).trans rfl
        have es56_14 : s56 99 25 = s0 99 25 := (Gs56 99 25 rfl).trans es54_14
        have es56_15 : s56 62 0 = s0 62 0 := (Gs56 62 0 rfl).trans es54_15
        have es56_16 : s56 110 0 = s0 110 0 := (Gs56 110 0 rfl).trans es54_16
        have es56_17 : s56 62 1 = s0 62 1 := (Gs56 62 1 rfl).trans es54_17
        have es56_18 : s56 110 1 = s0 110 1 := (Gs56 110 1 rfl).trans es54_18
        refine h_iret rfl rfl (h_Kv ?_)
        refine h_pop (pc' := 1253) rfl rfl rfl ?_
        refine h_aload_n (pc' := 1254) rfl rfl rfl ?_
        refine h_aload_n (pc' := 1255) rfl rfl rfl ?_
        refine h_iload_n (pc' := 1256) rfl rfl rfl ?_
        refine h_iconst (pc' := 1257) (x := (Int32.ofInt 1)) rfl rfl rfl ?_
        refine h_iadd (pc' := 1258) rfl rfl hy3 ci_1 rfl (by omega) (by omega) (fun z57 hz57 => ?_)
        refine h_iald (pc' := 1259) (v := s0 0 (b3 + 1)) rfl rfl rfl hz57 (by omega) (by omega) (Zs56 _) (fun z58 hz58 => ?_)
        have tz58 := h_rgv hz58
        refine h_call (sp := false) (pc' := 1262) (M := [(0, .ref 98), (1, .int z58)]) rfl rfl rfl rfl rfl rfl rfl rfl ?_
        refine h_iload_n (pc' := 1) rfl rfl rfl ?_
        refine h_i2l (pc' := 2) rfl rfl hz58 (fun z59 hz59 => ?_)
        refine h_lconst (pc' := 3) (x := (Int64.ofInt 0)) rfl rfl rfl ?_
        refine h_lconst (pc' := 4) (x := (Int64.ofInt 1)) rfl rfl rfl ?_
        refine h_calls (pc' := 7) (M := [(0, .long z59), (2, .long (Int64.ofInt 0)), (4, .long (Int64.ofInt 1))]) rfl rfl rfl rfl rfl rfl ?_
        refine h_lload_n (pc' := 1) rfl rfl rfl ?_
        refine h_lload_n (pc' := 2) rfl rfl rfl ?_
        refine h_lcmp (pc' := 3) rfl rfl hz59 cl_0 (fun z60 hz60 => ?_)
        refine h_zlt (tg := 17) (pc' := 6) rfl rfl rfl rfl (fun c61 => absurd c61 (by omega)) (fun c61 => ?_)
        replace c61 := (h_lcr hz60).2.1 c61
        clear hz60
        refine h_lload_n (pc' := 7) rfl rfl rfl ?_
        refine h_lload (pc' := 9) rfl rfl rfl ?_
        refine h_lcmp (pc' := 10) rfl rfl hz59 cl_1 (fun z62 hz62 => ?_)
        refine h_zgt (tg := 17) (pc' := 13) rfl rfl rfl rfl (fun c63 => absurd c63 (by omega)) (fun c63 => ?_)
        replace c63 := (h_lcr hz62).2.2.1 c63
        clear hz62
        refine h_iconst (pc' := 14) (x := (Int32.ofInt 1)) rfl rfl rfl ?_
        refine h_goto (pc' := 18) rfl rfl ?_
        refine h_zret rfl rfl ci_1 (by omega) (h_Kv ?_)
        refine h_zne (tg := 12) (pc' := 10) rfl rfl rfl ci_1 (fun c64 => ?_) (fun c64 => absurd c64 (by omega))
        refine h_aload_n (pc' := 13) rfl rfl rfl ?_
        refine h_getR (pc' := 16) rfl rfl rfl rfl rfl ?_
        refine h_iload_n (pc' := 17) rfl rfl rfl ?_
        have qz58 : z58 = (Int32.ofInt 1) := h_lit (show z58.toInt = 1 by omega) ci_1
        subst qz58
        refine h_bald (pc' := 18) (v := s0 110 1) rfl rfl rfl ci_1 (by omega) (by omega) es56_18 (fun z65 hz65 => ?_)
        have tz65 := ty_110 I0 1
        refine h_zne (tg := 24) (pc' := 21) rfl rfl rfl hz65 (fun c66 => ?_) (fun c66 => absurd c66 (by omega))
        refine h_aload_n (pc' := 25) rfl rfl rfl ?_
        refine h_bipush (pc' := 27) (x := (Int32.ofInt 44)) rfl rfl cb_44 ?_
        refine h_iload_n (pc' := 28) rfl rfl rfl ?_
        refine h_iconst (pc' := 29) (x := (Int32.ofInt 1)) rfl rfl rfl ?_
        refine h_iadd (pc' := 30) (c := 2) rfl rfl ci_1 ci_1 rfl (by omega) (by omega) (fun z67 hz67 => ?_)
        refine h_imul (pc' := 31) (c := 88) rfl rfl ci_44 hz67 rfl (by omega) (by omega) (fun z68 hz68 => ?_)
        refine h_iconst (pc' := 32) (x := (Int32.ofInt 0)) rfl rfl rfl ?_
        have qz68 : z68 = (Int32.ofInt 88) := h_lit hz68 ci_88
        subst qz68
        refine h_call (sp := false) (pc' := 35) (M := [(0, .ref 98), (1, .int (Int32.ofInt 88)), (2, .int (Int32.ofInt 0))]) rfl rfl rfl rfl rfl rfl rfl rfl ?_
        refine n_copies_88_0 _ Is56   (fun s70 Is70 Gs70 ps70_0 => h_Kn ?_)
        have Zs70 : ∀ i, s70 0 i = s0 0 i := fun i => (Gs70 0 i rfl).trans (Zs56 i)
        have Fs70 : h_F (fun _ _ => true) s70 s0 := fun _ _ h => by cases h
        have es70_0 : s70 64 1 = s0 64 1 := (Gs70 64 1 rfl).trans es56_0
        have es70_1 : s70 98 11 = s0 98 11 := (Gs70 98 11 rfl).trans es56_1
        have es70_2 : s70 64 4 = s0 64 4 := (Gs70 64 4 rfl).trans es56_2
        have es70_3 : s70 98 16 = s0 98 16 := (Gs70 98 16 rfl).trans es56_3
        have es70_4 : s70 63 2 = s0 63 2 := (Gs70 63 2 rfl).trans es56_4
        have es70_5 : s70 10 8 = s54 10 8 := (Gs70 10 8 rfl).trans es56_5
        have es70_6 : s70 98 1 = s0 98 1 := (Gs70 98 1 rfl).trans es56_6
        have es70_7 : s70 10 9 = s54 10 9 := (Gs70 10 9 rfl).trans es56_7
        have es70_8 : s70 98 2 = s0 98 2 := (Gs70 98 2 rfl).trans es56_8
        have es70_9 : s70 10 10 = s54 10 10 := (Gs70 10 10 rfl).trans es56_9
        have es70_11 : s70 13 2 = s54 13 2 := (Gs70 13 2 rfl).trans es56_11
        have es70_13 : s70 16 2 = s54 16 2 := (Gs70 16 2 rfl).trans es56_13
        have es70_15 : s70 62 0 = s0 62 0 := (Gs70 62 0 rfl).trans es56_15
        have es70_16 : s70 110 0 = s0 110 0 := (Gs70 110 0 rfl).trans es56_16
        have es70_17 : s70 62 1 = s0 62 1 := (Gs70 62 1 rfl).trans es56_17
        have es70_18 : s70 110 1 = s0 110 1 := (Gs70 110 1 rfl).trans es56_18
        refine h_aload_n (pc' := 36) rfl rfl rfl ?_
        refine h_call (sp := false) (pc' := 39) (M := [(0, .ref 98)]) rfl rfl rfl rfl rfl rfl rfl rfl ?_
        refine w_159_98 _ Is70  (fun r71 br71 hr71 s72 Is72 Gs72 => h_Kv ?_)
        have Zs72 : ∀ i, s72 0 i = s0 0 i := fun i => (Gs72 0 i rfl).trans (Zs70 i)
        have Fs72 : h_F (fun _ _ => true) s72 s0 := fun _ _ h => by cases h
        have es72_0 : s72 64 1 = s0 64 1 := (Gs72 64 1 rfl).trans es70_0
        have es72_1 : s72 98 11 = s0 98 11 := (Gs72 98 11 rfl).trans es70_1
        have es72_2 : s72 64 4 = s0 64 4 := (Gs72 64 4 rfl).trans es70_2
        have es72_3 : s72 98 16 = s0 98 16 := (Gs72 98 16 rfl).trans es70_3
        have es72_4 : s72 63 2 = s0 63 2 := (Gs72 63 2 rfl).trans es70_4
        have es72_5 : s72 10 8 = s54 10 8 := (Gs72 10 8 rfl).trans es70_5
        have es72_6 : s72 98 1 = s0 98 1 := (Gs72 98 1 rfl).trans es70_6
        have es72_7 : s72 10 9 = s54 10 9 := (Gs72 10 9 rfl).trans es70_7
        have es72_8 : s72 98 2 = s0 98 2 := (Gs72 98 2 rfl).trans es70_8
        have es72_9 : s72 10 10 = s54 10 10 := (Gs72 10 10 rfl).trans es70_9
        have es72_10 : s72 99 43 = s70 99 43 := (Gs72 99 43 rfl).trans rfl
        have es72_11 : s72 13 2 = s54 13 2 := (Gs72 13 2 rfl).trans es70_11
        have es72_12 : s72 99 18 = s70 99 18 := (Gs72 99 18 rfl).trans rfl
        have es72_13 : s72 16 2 = s54 16 2 := (Gs72 16 2 rfl).trans es70_13
        have es72_14 : s72 99 25 = s70 99 25 := (Gs72 99 25 rfl).trans rfl
        have es72_15 : s72 62 0 = s0 62 0 := (Gs72 62 0 rfl).trans es70_15
        have es72_16 : s72 110 0 = s0 110 0 := (Gs72 110 0 rfl).trans es70_16
        have es72_17 : s72 62 1 = s0 62 1 := (Gs72 62 1 rfl).trans es70_17
        have es72_18 : s72 110 1 = s0 110 1 := (Gs72 110 1 rfl).trans es70_18
        refine h_iret rfl rfl (h_Kv ?_)
        refine h_pop (pc' := 1263) rfl rfl rfl ?_
        refine h_goto (pc' := 1441) rfl rfl ?_
        exact kk _ Is72 (by first | exact d_tape.le j0 (Int.le_antisymm (by omega) (by omega)) (by omega) (fun j => (Gs72 65 j rfl).trans ((Gs70 65 j rfl).trans ((Gs56 65 j rfl).trans ((Gs54 65 j rfl))))) (fun j => (Gs72 102 j rfl).trans ((Gs70 102 j rfl).trans ((Gs56 102 j rfl).trans ((Gs54 102 j rfl))))) | (exfalso; omega)) (Int.le_antisymm (by omega) (by omega)) (c_R.back1 j2 I0 (by omega) (Int.le_antisymm (by omega) (by omega)) (Int.le_antisymm (by omega) (by omega)) (((c_eq.fr (fl := false) Gs72 rfl).tr ((c_eq.fr (fl := false) Gs70 rfl).tr (c_eq.fr (fl := false) Gs56 rfl))).tr (ps54_0.wk.tr c_eq.rf)) ((c_eq.fr (fl := false) Gs72 rfl).tr ((c_eq.fr (fl := false) Gs70 rfl).tr ((c_eq.fr (fl := false) Gs56 rfl).tr (c_eq.fr (fl := false) Gs54 rfl)))) ((c_eq.fr (fl := false) Gs72 rfl).tr ((c_eq.fr (fl := false) Gs70 rfl).tr ((c_eq.fr (fl := false) Gs56 rfl).tr (c_eq.fr (fl := false) Gs54 rfl)))) (fun j a b => (((Gs72.no (q := 99) (l := 0) (u := 43) (j := 0 + j) rfl (by omega) (by omega))).trans (ps70_0 j a b)).trans ((Gs56.no (q := 99) (l := 88) (u := 131) (j := 88 + j) rfl (by omega) (by omega)).trans ((Gs54.no (q := 99) (l := 88) (u := 131) (j := 88 + j) rfl (by omega) (by omega))))) ((((c_pg.fr (fl := false) (o := 44) Gs54 rfl).tr (c_pg.fr (fl := false) (o := 44) Gs56 rfl)).tr (c_pg.fr (fl := false) (o := 44) Gs70 rfl)).tr (c_pg.fr (fl := false) (o := 44) Gs72 rfl)) ((((c_pg.fr (fl := false) (o := 88) Gs54 rfl).tr (c_pg.fr (fl := false) (o := 88) Gs56 rfl)).tr (c_pg.fr (fl := false) (o := 88) Gs70 rfl)).tr (c_pg.fr (fl := false) (o := 88) Gs72 rfl)) (Int.le_antisymm (by omega) (by omega)) (Int.le_antisymm (by omega) (by omega)) (Int.le_antisymm (by omega) (by omega)) (Int.le_antisymm (by omega) (by omega)))
      · refine h_bipush (pc' := 20) (x := (Int32.ofInt (-2))) rfl rfl cb_m2 ?_
        refine h_iret rfl rfl (h_Kv ?_)
        refine h_pop (pc' := 1253) rfl rfl rfl ?_
        refine h_aload_n (pc' := 1254) rfl rfl rfl ?_
        refine h_aload_n (pc' := 1255) rfl rfl rfl ?_
        refine h_iload_n (pc' := 1256) rfl rfl rfl ?_
        refine h_iconst (pc' := 1257) (x := (Int32.ofInt 1)) rfl rfl rfl ?_
        refine h_iadd (pc' := 1258) rfl rfl hy3 ci_1 rfl (by omega) (by omega) (fun z73 hz73 => ?_)
        refine h_iald (pc' := 1259) (v := s0 0 (b3 + 1)) rfl rfl rfl hz73 (by omega) (by omega) rfl (fun z74 hz74 => ?_)
        have tz74 := h_rgv hz74
        refine h_call (sp := false) (pc' := 1262) (M := [(0, .ref 98), (1, .int z74)]) rfl rfl rfl rfl rfl rfl rfl rfl ?_
        refine h_iload_n (pc' := 1) rfl rfl rfl ?_
        refine h_i2l (pc' := 2) rfl rfl hz74 (fun z75 hz75 => ?_)
        refine h_lconst (pc' := 3) (x := (Int64.ofInt 0)) rfl rfl rfl ?_
        refine h_lconst (pc' := 4) (x := (Int64.ofInt 1)) rfl rfl rfl ?_
        refine h_calls (pc' := 7) (M := [(0, .long z75), (2, .long (Int64.ofInt 0)), (4, .long (Int64.ofInt 1))]) rfl rfl rfl rfl rfl rfl ?_
        refine h_lload_n (pc' := 1) rfl rfl rfl ?_
        refine h_lload_n (pc' := 2) rfl rfl rfl ?_
        refine h_lcmp (pc' := 3) rfl rfl hz75 cl_0 (fun z76 hz76 => ?_)
        refine h_zlt (tg := 17) (pc' := 6) rfl rfl rfl rfl (fun c77 => absurd c77 (by omega)) (fun c77 => ?_)
        replace c77 := (h_lcr hz76).2.1 c77
        clear hz76
        refine h_lload_n (pc' := 7) rfl rfl rfl ?_
        refine h_lload (pc' := 9) rfl rfl rfl ?_
        refine h_lcmp (pc' := 10) rfl rfl hz75 cl_1 (fun z78 hz78 => ?_)
        refine h_zgt (tg := 17) (pc' := 13) rfl rfl rfl rfl (fun c79 => absurd c79 (by omega)) (fun c79 => ?_)
        replace c79 := (h_lcr hz78).2.2.1 c79
        clear hz78
        refine h_iconst (pc' := 14) (x := (Int32.ofInt 1)) rfl rfl rfl ?_
        refine h_goto (pc' := 18) rfl rfl ?_
        refine h_zret rfl rfl ci_1 (by omega) (h_Kv ?_)
        refine h_zne (tg := 12) (pc' := 10) rfl rfl rfl ci_1 (fun c80 => ?_) (fun c80 => absurd c80 (by omega))
        refine h_aload_n (pc' := 13) rfl rfl rfl ?_
        refine h_getR (pc' := 16) rfl rfl rfl rfl rfl ?_
        refine h_iload_n (pc' := 17) rfl rfl rfl ?_
        have qz74 : z74 = (Int32.ofInt 1) := h_lit (show z74.toInt = 1 by omega) ci_1
        subst qz74
        refine h_bald (pc' := 18) (v := s0 110 1) rfl rfl rfl ci_1 (by omega) (by omega) rfl (fun z81 hz81 => ?_)
        have tz81 := ty_110 I0 1
        refine h_zne (tg := 24) (pc' := 21) rfl rfl rfl hz81 (fun c82 => absurd (Int.le_antisymm (by omega) (by omega)) c82) (fun c82 => ?_)
        refine h_bipush (pc' := 23) (x := (Int32.ofInt (-2))) rfl rfl cb_m2 ?_
        refine h_iret rfl rfl (h_Kv ?_)
        refine h_pop (pc' := 1263) rfl rfl rfl ?_
        refine h_goto (pc' := 1441) rfl rfl ?_
        exact kk _ I0 (by first | exact d_tape.le j0 (Int.le_antisymm (by omega) (by omega)) (by omega) (fun j => rfl) (fun j => rfl) | (exfalso; omega)) (Int.le_antisymm (by omega) (by omega)) j2
set_option maxHeartbeats 100000000 in
theorem g_case_1266 {ns : Nat} (hns : ns ≤ 320) (s0 : h_S) (I0 : h_I s0) (j0 : d_tape s0 s0) (j1 : s0 64 4 = s0 98 16) (j2 : c_R false s0) (y3 : Int32) (b3 : Int) (hy3 : y3.toInt = b3) (hr : 0 ≤ b3 ∧ b3 + 5 ≤ ns) {Q : Option Value → h_S → Prop} (kk : ∀ τ, h_I τ → (d_tape τ τ) → (τ 64 4 = τ 98 16) → (c_R false τ) → h_T g_P (g_Y ns) 225 1441 [(0, .ref 0), (1, .ref 9), (2, .ref 98), (3, .int y3)] [] τ Q) : h_T g_P (g_Y ns) 225 1266 [(0, .ref 0), (1, .ref 9), (2, .ref 98), (3, .int y3)] [] s0 Q := by
  have F0_ : h_F (fun _ _ => true) s0 s0 := h_F.rf
  have j0_ := j0.2
  have i0 := tf_64_1 I0
  have i1 := tf_98_11 I0
  have i2 := tf_64_4 I0
  have i3 := tf_98_16 I0
  have i4 := tf_63_2 I0
  have i5 := tf_10_8 I0
  have i6 := tf_98_1 I0
  have i7 := tf_10_9 I0
  have i8 := tf_98_2 I0
  have i9 := tf_10_10 I0
  have i11 := tf_13_2 I0
  have i13 := tf_16_2 I0
  have j2_ := j2.sz
  have j2i := j2.2.2.1
  have y43 := ty_99_10 I0 43 (by omega)
  have y18 := ty_99_3 I0 18 (by omega)
  have y25 := ty_99_5 I0 25 (by omega)
  have y62_0 := ty_62 I0 0
  have y62_1 := ty_62 I0 1
  have y110_0 := ty_110 I0 0
  have y110_1 := ty_110 I0 1
  refine h_aload_n (pc' := 1267) rfl rfl rfl ?_
  refine h_aload_n (pc' := 1268) rfl rfl rfl ?_
  refine h_iload_n (pc' := 1269) rfl rfl rfl ?_
  refine h_iconst (pc' := 1270) (x := (Int32.ofInt 1)) rfl rfl rfl ?_
  refine h_iadd (pc' := 1271) rfl rfl hy3 ci_1 rfl (by omega) (by omega) (fun z1 hz1 => ?_)
  refine h_iald (pc' := 1272) (v := s0 0 (b3 + 1)) rfl rfl rfl hz1 (by omega) (by omega) rfl (fun z2 hz2 => ?_)
  have tz2 := h_rgv hz2
  refine h_aload_n (pc' := 1273) rfl rfl rfl ?_
  refine h_iload_n (pc' := 1274) rfl rfl rfl ?_
  refine h_iconst (pc' := 1275) (x := (Int32.ofInt 2)) rfl rfl rfl ?_
  refine h_iadd (pc' := 1276) rfl rfl hy3 ci_2 rfl (by omega) (by omega) (fun z3 hz3 => ?_)
  refine h_iald (pc' := 1277) (v := s0 0 (b3 + 2)) rfl rfl rfl hz3 (by omega) (by omega) rfl (fun z4 hz4 => ?_)
  have tz4 := h_rgv hz4
  refine h_aload_n (pc' := 1278) rfl rfl rfl ?_
  refine h_iload_n (pc' := 1279) rfl rfl rfl ?_
  refine h_iconst (pc' := 1280) (x := (Int32.ofInt 3)) rfl rfl rfl ?_
  refine h_iadd (pc' := 1281) rfl rfl hy3 ci_3 rfl (by omega) (by omega) (fun z5 hz5 => ?_)
  refine h_iald (pc' := 1282) (v := s0 0 (b3 + 3)) rfl rfl rfl hz5 (by omega) (by omega) rfl (fun z6 hz6 => ?_)
  have tz6 := h_rgv hz6
  refine h_call (sp := false) (pc' := 1285) (M := [(0, .ref 9), (1, .int z2), (2, .int z4), (3, .int z6)]) rfl rfl rfl rfl rfl rfl rfl rfl ?_
  refine w_118_9 _ I0 z2 _ hz2 z4 _ hz4 z6 _ hz6 (fun r7 br7 hr7 s8 Is8 Gs8 tr7 => h_Kv ?_)
  have Zs8 : ∀ i, s8 0 i = s0 0 i := fun i => (Gs8 0 i rfl).trans rfl
  have Fs8 : h_F (fun _ _ => true) s8 s0 := fun _ _ h => by cases h
  have es8_0 : s8 64 1 = s0 64 1 := (Gs8 64 1 rfl).trans rfl
  have es8_1 : s8 98 11 = s0 98 11 := (Gs8 98 11 rfl).trans rfl
  have es8_2 : s8 64 4 = s0 64 4 := (Gs8 64 4 rfl).trans rfl
  have es8_3 : s8 98 16 = s0 98 16 := (Gs8 98 16 rfl).trans rfl
  have es8_4 : s8 63 2 = s0 63 2 := (Gs8 63 2 rfl).trans rfl
  have es8_5 : s8 10 8 = s0 10 8 := (Gs8 10 8 rfl).trans rfl
  have es8_6 : s8 98 1 = s0 98 1 := (Gs8 98 1 rfl).trans rfl
  have es8_7 : s8 10 9 = s0 10 9 := (Gs8 10 9 rfl).trans rfl
  have es8_8 : s8 98 2 = s0 98 2 := (Gs8 98 2 rfl).trans rfl
  have es8_9 : s8 10 10 = s0 10 10 := (Gs8 10 10 rfl).trans rfl
  have es8_10 : s8 99 43 = s0 99 43 := (Gs8 99 43 rfl).trans rfl
  have es8_11 : s8 13 2 = s0 13 2 := (Gs8 13 2 rfl).trans rfl
  have es8_12 : s8 99 18 = s0 99 18 := (Gs8 99 18 rfl).trans rfl
  have es8_13 : s8 16 2 = s0 16 2 := (Gs8 16 2 rfl).trans rfl
  have es8_14 : s8 99 25 = s0 99 25 := (Gs8 99 25 rfl).trans rfl
  have es8_15 : s8 62 0 = s0 62 0 := (Gs8 62 0 rfl).trans rfl
  have es8_16 : s8 110 0 = s0 110 0 := (Gs8 110 0 rfl).trans rfl
  have es8_17 : s8 62 1 = s0 62 1 := (Gs8 62 1 rfl).trans rfl
  have es8_18 : s8 110 1 = s0 110 1 := (Gs8 110 1 rfl).trans rfl
  refine h_pop (pc' := 1286) rfl rfl rfl ?_
  refine h_aload_n (pc' := 1287) rfl rfl rfl ?_
  refine h_aload_n (pc' := 1288) rfl rfl rfl ?_
  refine h_iload_n (pc' := 1289) rfl rfl rfl ?_
  refine h_iconst (pc' := 1290) (x := (Int32.ofInt 1)) rfl rfl rfl ?_
  refine h_iadd (pc' := 1291) rfl rfl hy3 ci_1 rfl (by omega) (by omega) (fun z9 hz9 => ?_)
  refine h_iald (pc' := 1292) (v := s0 0 (b3 + 1)) rfl rfl rfl hz9 (by omega) (by omega) (Zs8 _) (fun z10 hz10 => ?_)
  have tz10 := h_rgv hz10
  refine h_aload_n (pc' := 1293) rfl rfl rfl ?_
  refine h_iload_n (pc' := 1294) rfl rfl rfl ?_
  refine h_iconst (pc' := 1295) (x := (Int32.ofInt 2)) rfl rfl rfl ?_
  refine h_iadd (pc' := 1296) rfl rfl hy3 ci_2 rfl (by omega) (by omega) (fun z11 hz11 => ?_)
  refine h_iald (pc' := 1297) (v := s0 0 (b3 + 2)) rfl rfl rfl hz11 (by omega) (by omega) (Zs8 _) (fun z12 hz12 => ?_)
  have tz12 := h_rgv hz12
  refine h_aload_n (pc' := 1298) rfl rfl rfl ?_
  refine h_iload_n (pc' := 1299) rfl rfl rfl ?_
  refine h_iconst (pc' := 1300) (x := (Int32.ofInt 3)) rfl rfl rfl ?_
  refine h_iadd (pc' := 1301) rfl rfl hy3 ci_3 rfl (by omega) (by omega) (fun z13 hz13 => ?_)
  refine h_iald (pc' := 1302) (v := s0 0 (b3 + 3)) rfl rfl rfl hz13 (by omega) (by omega) (Zs8 _) (fun z14 hz14 => ?_)
  have tz14 := h_rgv hz14
  refine h_call (sp := false) (pc' := 1305) (M := [(0, .ref 98), (1, .int z10), (2, .int z12), (3, .int z14)]) rfl rfl rfl rfl rfl rfl rfl rfl ?_
  refine w_220_98 _ Is8 z10 _ hz10 z12 _ hz12 z14 _ hz14 (fun r15 br15 hr15 s16 Is16 Gs16 tr15 => h_Kv ?_)
  have Zs16 : ∀ i, s16 0 i = s0 0 i := fun i => (Gs16 0 i rfl).trans (Zs8 i)
  have Fs16 : h_F (fun _ _ => true) s16 s0 := fun _ _ h => by cases h
  have es16_0 : s16 64 1 = s0 64 1 := (Gs16 64 1 rfl).trans es8_0
  have es16_1 : s16 98 11 = s0 98 11 := (Gs16 98 11 rfl).trans es8_1
  have es16_2 : s16 64 4 = s0 64 4 := (Gs16 64 4 rfl).trans es8_2
  have es16_3 : s16 98 16 = s0 98 16 := (Gs16 98 16 rfl).trans es8_3
  have es16_4 : s16 63 2 = s0 63 2 := (Gs16 63 2 rfl).trans es8_4
  have es16_5 : s16 10 8 = s0 10 8 := (Gs16 10 8 rfl).trans es8_5
  have es16_6 : s16 98 1 = s0 98 1 := (Gs16 98 1 rfl).trans es8_6
  have es16_7 : s16 10 9 = s0 10 9 := (Gs16 10 9 rfl).trans es8_7
  have es16_8 : s16 98 2 = s0 98 2 := (Gs16 98 2 rfl).trans es8_8
  have es16_9 : s16 10 10 = s0 10 10 := (Gs16 10 10 rfl).trans es8_9
  have es16_10 : s16 99 43 = s0 99 43 := (Gs16 99 43 rfl).trans es8_10
  have es16_11 : s16 13 2 = s0 13 2 := (Gs16 13 2 rfl).trans es8_11
  have es16_12 : s16 99 18 = s0 99 18 := (Gs16 99 18 rfl).trans es8_12
  have es16_13 : s16 16 2 = s0 16 2 := (Gs16 16 2 rfl).trans es8_13
  have es16_14 : s16 99 25 = s0 99 25 := (Gs16 99 25 rfl).trans es8_14
  have es16_15 : s16 62 0 = s0 62 0 := (Gs16 62 0 rfl).trans es8_15
  have es16_16 : s16 110 0 = s0 110 0 := (Gs16 110 0 rfl).trans es8_16
  have es16_17 : s16 62 1 = s0 62 1 := (Gs16 62 1 rfl).trans es8_17
  have es16_18 : s16 110 1 = s0 110 1 := (Gs16 110 1 rfl).trans es8_18
  clear es8_0 es8_1 es8_10 es8_11 es8_12 es8_13 es8_14 es8_15 es8_16 es8_17 es8_18 es8_2 es8_3 es8_4 es8_5 es8_6 es8_7 es8_8 es8_9
  refine h_pop (pc' := 1306) rfl rfl rfl ?_
  refine h_goto (pc' := 1441) rfl rfl ?_
  exact kk _ Is16 (by first | exact d_tape.le j0 (Int.le_antisymm (by omega) (by omega)) (by omega) (fun j => (Gs16 65 j rfl).trans ((Gs8 65 j rfl))) (fun j => (Gs16 102 j rfl).trans ((Gs8 102 j rfl))) | (exfalso; omega)) (Int.le_antisymm (by omega) (by omega)) (c_R.fr (c_R.fr j2 I0 Gs8 rfl) Is8 Gs16 rfl)
set_option maxHeartbeats 100000000 in
theorem g_case_1309 {ns : Nat} (hns : ns ≤ 320) (s0 : h_S) (I0 : h_I s0) (j0 : d_tape s0 s0) (j1 : s0 64 4 = s0 98 16) (j2 : c_R false s0) (y3 : Int32) (b3 : Int) (hy3 : y3.toInt = b3) (hr : 0 ≤ b3 ∧ b3 + 5 ≤ ns) {Q : Option Value → h_S → Prop} (kk : ∀ τ, h_I τ → (d_tape τ τ) → (τ 64 4 = τ 98 16) → (c_R false τ) → h_T g_P (g_Y ns) 225 1441 [(0, .ref 0), (1, .ref 9), (2, .ref 98), (3, .int y3)] [] τ Q) : h_T g_P (g_Y ns) 225 1309 [(0, .ref 0), (1, .ref 9), (2, .ref 98), (3, .int y3)] [] s0 Q := by
  have F0_ : h_F (fun _ _ => true) s0 s0 := h_F.rf
  have j0_ := j0.2
  have i0 := tf_64_1 I0
  have i1 := tf_98_11 I0
  have i2 := tf_64_4 I0
  have i3 := tf_98_16 I0
  have i4 := tf_63_2 I0
  have i5 := tf_10_8 I0
  have i6 := tf_98_1 I0
  have i7 := tf_10_9 I0
  have i8 := tf_98_2 I0
  have i9 := tf_10_10 I0
  have i11 := tf_13_2 I0
  have i13 := tf_16_2 I0
  have j2_ := j2.sz
  have j2i := j2.2.2.1
  have y43 := ty_99_10 I0 43 (by omega)
  have y18 := ty_99_3 I0 18 (by omega)
  have y25 := ty_99_5 I0 25 (by omega)
  have y62_0 := ty_62 I0 0
  have y62_1 := ty_62 I0 1
  have y110_0 := ty_110 I0 0
  have y110_1 := ty_110 I0 1
  refine h_aload_n (pc' := 1310) rfl rfl rfl ?_
  refine h_aload_n (pc' := 1311) rfl rfl rfl ?_
  refine h_iload_n (pc' := 1312) rfl rfl rfl ?_
  refine h_iconst (pc' := 1313) (x := (Int32.ofInt 1)) rfl rfl rfl ?_
  refine h_iadd (pc' := 1314) rfl rfl hy3 ci_1 rfl (by omega) (by omega) (fun z1 hz1 => ?_)
  refine h_iald (pc' := 1315) (v := s0 0 (b3 + 1)) rfl rfl rfl hz1 (by omega) (by omega) rfl (fun z2 hz2 => ?_)
  have tz2 := h_rgv hz2
  refine h_aload_n (pc' := 1316) rfl rfl rfl ?_
  refine h_iload_n (pc' := 1317) rfl rfl rfl ?_
  refine h_iconst (pc' := 1318) (x := (Int32.ofInt 2)) rfl rfl rfl ?_
  refine h_iadd (pc' := 1319) rfl rfl hy3 ci_2 rfl (by omega) (by omega) (fun z3 hz3 => ?_)
  refine h_iald (pc' := 1320) (v := s0 0 (b3 + 2)) rfl rfl rfl hz3 (by omega) (by omega) rfl (fun z4 hz4 => ?_)
  have tz4 := h_rgv hz4
  refine h_aload_n (pc' := 1321) rfl rfl rfl ?_
  refine h_iload_n (pc' := 1322) rfl rfl rfl ?_
  refine h_iconst (pc' := 1323) (x := (Int32.ofInt 3)) rfl rfl rfl ?_
  refine h_iadd (pc' := 1324) rfl rfl hy3 ci_3 rfl (by omega) (by omega) (fun z5 hz5 => ?_)
  refine h_iald (pc' := 1325) (v := s0 0 (b3 + 3)) rfl rfl rfl hz5 (by omega) (by omega) rfl (fun z6 hz6 => ?_)
  have tz6 := h_rgv hz6
  refine h_call (sp := false) (pc' := 1328) (M := [(0, .ref 9), (1, .int z2), (2, .int z4), (3, .int z6)]) rfl rfl rfl rfl rfl rfl rfl rfl ?_
  refine w_119_9 _ I0 z2 _ hz2 z4 _ hz4 z6 _ hz6 (fun r7 br7 hr7 s8 Is8 Gs8 tr7 => h_Kv ?_)
  have Zs8 : ∀ i, s8 0 i = s0 0 i := fun i => (Gs8 0 i rfl).trans rfl
  have Fs8 : h_F (fun _ _ => true) s8 s0 := fun _ _ h => by cases h
  have es8_0 : s8 64 1 = s0 64 1 := (Gs8 64 1 rfl).trans rfl
  have es8_1 : s8 98 11 = s0 98 11 := (Gs8 98 11 rfl).trans rfl
  have es8_2 : s8 64 4 = s0 64 4 := (Gs8 64 4 rfl).trans rfl
  have es8_3 : s8 98 16 = s0 98 16 := (Gs8 98 16 rfl).trans rfl
  have es8_4 : s8 63 2 = s0 63 2 := (Gs8 63 2 rfl).trans rfl
  have es8_5 : s8 10 8 = s0 10 8 := (Gs8 10 8 rfl).trans rfl
  have es8_6 : s8 98 1 = s0 98 1 := (Gs8 98 1 rfl).trans rfl
  have es8_7 : s8 10 9 = s0 10 9 := (Gs8 10 9 rfl).trans rfl
  have es8_8 : s8 98 2 = s0 98 2 := (Gs8 98 2 rfl).trans rfl
  have es8_9 : s8 10 10 = s0 10 10 := (Gs8 10 10 rfl).trans rfl
  have es8_10 : s8 99 43 = s0 99 43 := (Gs8 99 43 rfl).trans rfl
  have es8_11 : s8 13 2 = s0 13 2 := (Gs8 13 2 rfl).trans rfl
  have es8_12 : s8 99 18 = s0 99 18 := (Gs8 99 18 rfl).trans rfl
  have es8_13 : s8 16 2 = s0 16 2 := (Gs8 16 2 rfl).trans rfl
  have es8_14 : s8 99 25 = s0 99 25 := (Gs8 99 25 rfl).trans rfl
  have es8_15 : s8 62 0 = s0 62 0 := (Gs8 62 0 rfl).trans rfl
  have es8_16 : s8 110 0 = s0 110 0 := (Gs8 110 0 rfl).trans rfl
  have es8_17 : s8 62 1 = s0 62 1 := (Gs8 62 1 rfl).trans rfl
  have es8_18 : s8 110 1 = s0 110 1 := (Gs8 110 1 rfl).trans rfl
  refine h_pop (pc' := 1329) rfl rfl rfl ?_
  refine h_aload_n (pc' := 1330) rfl rfl rfl ?_
  refine h_aload_n (pc' := 1331) rfl rfl rfl ?_
  refine h_iload_n (pc' := 1332) rfl rfl rfl ?_
  refine h_iconst (pc' := 1333) (x := (Int32.ofInt 1)) rfl rfl rfl ?_
  refine h_iadd (pc' := 1334) rfl rfl hy3 ci_1 rfl (by omega) (by omega) (fun z9 hz9 => ?_)
  refine h_iald (pc' := 1335) (v := s0 0 (b3 + 1)) rfl rfl rfl hz9 (by omega) (by omega) (Zs8 _) (fun z10 hz10 => ?_)
  have tz10 := h_rgv hz10
  refine h_aload_n (pc' := 1336) rfl rfl rfl ?_
  refine h_iload_n (pc' := 1337) rfl rfl rfl ?_
  refine h_iconst (pc' := 1338) (x := (Int32.ofInt 2)) rfl rfl rfl ?_
  refine h_iadd (pc' := 1339) rfl rfl hy3 ci_2 rfl (by omega) (by omega) (fun z11 hz11 => ?_)
  refine h_iald (pc' := 1340) (v := s0 0 (b3 + 2)) rfl rfl rfl hz11 (by omega) (by omega) (Zs8 _) (fun z12 hz12 => ?_)
  have tz12 := h_rgv hz12
  refine h_aload_n (pc' := 1341) rfl rfl rfl ?_
  refine h_iload_n (pc' := 1342) rfl rfl rfl ?_
  refine h_iconst (pc' := 1343) (x := (Int32.ofInt 3)) rfl rfl rfl ?_
  refine h_iadd (pc' := 1344) rfl rfl hy3 ci_3 rfl (by omega) (by omega) (fun z13 hz13 => ?_)
  refine h_iald (pc' := 1345) (v := s0 0 (b3 + 3)) rfl rfl rfl hz13 (by omega) (by omega) (Zs8 _) (fun z14 hz14 => ?_)
  have tz14 := h_rgv hz14
  refine h_call (sp := false) (pc' := 1348) (M := [(0, .ref 98), (1, .int z10), (2, .int z12), (3, .int z14)]) rfl rfl rfl rfl rfl rfl rfl rfl ?_
  refine w_221_98 _ Is8 z10 _ hz10 z12 _ hz12 z14 _ hz14 (fun r15 br15 hr15 s16 Is16 Gs16 tr15 => h_Kv ?_)
  have Zs16 : ∀ i, s16 0 i = s0 0 i := fun i => (Gs16 0 i rfl).trans (Zs8 i)
  have Fs16 : h_F (fun _ _ => true) s16 s0 := fun _ _ h => by cases h
  have es16_0 : s16 64 1 = s0 64 1 := (Gs16 64 1 rfl).trans es8_0
  have es16_1 : s16 98 11 = s0 98 11 := (Gs16 98 11 rfl).trans es8_1
  have es16_2 : s16 64 4 = s0 64 4 := (Gs16 64 4 rfl).trans es8_2
  have es16_3 : s16 98 16 = s0 98 16 := (Gs16 98 16 rfl).trans es8_3
  have es16_4 : s16 63 2 = s0 63 2 := (Gs16 63 2 rfl).trans es8_4
  have es16_5 : s16 10 8 = s0 10 8 := (Gs16 10 8 rfl).trans es8_5
  have es16_6 : s16 98 1 = s0 98 1 := (Gs16 98 1 rfl).trans es8_6
  have es16_7 : s16 10 9 = s0 10 9 := (Gs16 10 9 rfl).trans es8_7
  have es16_8 : s16 98 2 = s0 98 2 := (Gs16 98 2 rfl).trans es8_8
  have es16_9 : s16 10 10 = s0 10 10 := (Gs16 10 10 rfl).trans es8_9
  have es16_10 : s16 99 43 = s0 99 43 := (Gs16 99 43 rfl).trans es8_10
  have es16_11 : s16 13 2 = s0 13 2 := (Gs16 13 2 rfl).trans es8_11
  have es16_12 : s16 99 18 = s0 99 18 := (Gs16 99 18 rfl).trans es8_12
  have es16_13 : s16 16 2 = s0 16 2 := (Gs16 16 2 rfl).trans es8_13
  have es16_14 : s16 99 25 = s0 99 25 := (Gs16 99 25 rfl).trans es8_14
  have es16_15 : s16 62 0 = s0 62 0 := (Gs16 62 0 rfl).trans es8_15
  have es16_16 : s16 110 0 = s0 110 0 := (Gs16 110 0 rfl).trans es8_16
  have es16_17 : s16 62 1 = s0 62 1 := (Gs16 62 1 rfl).trans es8_17
  have es16_18 : s16 110 1 = s0 110 1 := (Gs16 110 1 rfl).trans es8_18
  clear es8_0 es8_1 es8_10 es8_11 es8_12 es8_13 es8_14 es8_15 es8_16 es8_17 es8_18 es8_2 es8_3 es8_4 es8_5 es8_6 es8_7 es8_8 es8_9
  refine h_pop (pc' := 1349) rfl rfl rfl ?_
  refine h_goto (pc' := 1441) rfl rfl ?_
  exact kk _ Is16 (by first | exact d_tape.le j0 (Int.le_antisymm (by omega) (by omega)) (by omega) (fun j => (Gs16 65 j rfl).trans ((Gs8 65 j rfl))) (fun j => (Gs16 102 j rfl).trans ((Gs8 102 j rfl))) | (exfalso; omega)) (Int.le_antisymm (by omega) (by omega)) (c_R.fr (c_R.fr j2 I0 Gs8 rfl) Is8 Gs16 rfl)
set_option maxHeartbeats 100000000 in
theorem g_case_1352 {ns : Nat} (hns : ns ≤ 320) (s0 : h_S) (I0 : h_I s0) (j0 : d_tape s0 s0) (j1 : s0 64 4 = s0 98 16) (j2 : c_R false s0) (y3 : Int32) (b3 : Int) (hy3 : y3.toInt = b3) (hr : 0 ≤ b3 ∧ b3 + 5 ≤ ns) {Q : Option Value → h_S → Prop} (kk : ∀ τ, h_I τ → (d_tape τ τ) → (τ 64 4 = τ 98 16) → (c_R false τ) → h_T g_P (g_Y ns) 225 1441 [(0, .ref 0), (1, .ref 9), (2, .ref 98), (3, .int y3)] [] τ Q) : h_T g_P (g_Y ns) 225 1352 [(0, .ref 0), (1, .ref 9), (2, .ref 98), (3, .int y3)] [] s0 Q := by
  have F0_ : h_F (fun _ _ => true) s0 s0 := h_F.rf
  have j0_ := j0.2
  have i0 := tf_64_1 I0
  have i1 := tf_98_11 I0
  have i2 := tf_64_4 I0
  have i3 := tf_98_16 I0
  have i4 := tf_63_2 I0
  have i5 := tf_10_8 I0
  have i6 := tf_98_1 I0
  have i7 := tf_10_9 I0
  have i8 := tf_98_2 I0
  have i9 := tf_10_10 I0
  have i11 := tf_13_2 I0
  have i13 := tf_16_2 I0
  have j2_ := j2.sz
  have j2i := j2.2.2.1
  have y43 := ty_99_10 I0 43 (by omega)
  have y18 := ty_99_3 I0 18 (by omega)
  have y25 := ty_99_5 I0 25 (by omega)
  have y62_0 := ty_62 I0 0
  have y62_1 := ty_62 I0 1
  have y110_0 := ty_110 I0 0
  have y110_1 := ty_110 I0 1
  refine h_aload_n (pc' := 1353) rfl rfl rfl ?_
  refine h_aload_n (pc' := 1354) rfl rfl rfl ?_
  refine h_iload_n (pc' := 1355) rfl rfl rfl ?_
  refine h_iconst (pc' := 1356) (x := (Int32.ofInt 1)) rfl rfl rfl ?_
  refine h_iadd (pc' := 1357) rfl rfl hy3 ci_1 rfl (by omega) (by omega) (fun z1 hz1 => ?_)
  refine h_iald (pc' := 1358) (v := s0 0 (b3 + 1)) rfl rfl rfl hz1 (by omega) (by omega) rfl (fun z2 hz2 => ?_)
  have tz2 := h_rgv hz2
  refine h_aload_n (pc' := 1359) rfl rfl rfl ?_
  refine h_iload_n (pc' := 1360) rfl rfl rfl ?_
  refine h_iconst (pc' := 1361) (x := (Int32.ofInt 2)) rfl rfl rfl ?_
  refine h_iadd (pc' := 1362) rfl rfl hy3 ci_2 rfl (by omega) (by omega) (fun z3 hz3 => ?_)
  refine h_iald (pc' := 1363) (v := s0 0 (b3 + 2)) rfl rfl rfl hz3 (by omega) (by omega) rfl (fun z4 hz4 => ?_)
  have tz4 := h_rgv hz4
  refine h_aload_n (pc' := 1364) rfl rfl rfl ?_
  refine h_iload_n (pc' := 1365) rfl rfl rfl ?_
  refine h_iconst (pc' := 1366) (x := (Int32.ofInt 3)) rfl rfl rfl ?_
  refine h_iadd (pc' := 1367) rfl rfl hy3 ci_3 rfl (by omega) (by omega) (fun z5 hz5 => ?_)
  refine h_iald (pc' := 1368) (v := s0 0 (b3 + 3)) rfl rfl rfl hz5 (by omega) (by omega) rfl (fun z6 hz6 => ?_)
  have tz6 := h_rgv hz6
  refine h_aload_n (pc' := 1369) rfl rfl rfl ?_
  refine h_iload_n (pc' := 1370) rfl rfl rfl ?_
  refine h_iconst (pc' := 1371) (x := (Int32.ofInt 4)) rfl rfl rfl ?_
  refine h_iadd (pc' := 1372) rfl rfl hy3 ci_4 rfl (by omega) (by omega) (fun z7 hz7 => ?_)
  refine h_iald (pc' := 1373) (v := s0 0 (b3 + 4)) rfl rfl rfl hz7 (by omega) (by omega) rfl (fun z8 hz8 => ?_)
  have tz8 := h_rgv hz8
  refine h_call (sp := false) (pc' := 1376) (M := [(0, .ref 9), (1, .int z2), (2, .int z4), (3, .int z6), (4, .int z8)]) rfl rfl rfl rfl rfl rfl rfl rfl ?_
  refine w_120_9 _ I0 z2 _ hz2 z4 _ hz4 z6 _ hz6 z8 _ hz8 (fun r9 br9 hr9 s10 Is10 Gs10 tr9 => h_Kv ?_)
  have Zs10 : ∀ i, s10 0 i = s0 0 i := fun i => (Gs10 0 i rfl).trans rfl
  have Fs10 : h_F (fun _ _ => true) s10 s0 := fun _ _ h => by cases h
  have es10_0 : s10 64 1 = s0 64 1 := (Gs10 64 1 rfl).trans rfl
  have es10_1 : s10 98 11 = s0 98 11 := (Gs10 98 11 rfl).trans rfl
  have es10_2 : s10 64 4 = s0 64 4 := (Gs10 64 4 rfl).trans rfl
  have es10_3 : s10 98 16 = s0 98 16 := (Gs10 98 16 rfl).trans rfl
  have es10_4 : s10 63 2 = s0 63 2 := (Gs10 63 2 rfl).trans rfl
  have es10_5 : s10 10 8 = s0 10 8 := (Gs10 10 8 rfl).trans rfl
  have es10_6 : s10 98 1 = s0 98 1 := (Gs10 98 1 rfl).trans rfl
  have es10_7 : s10 10 9 = s0 10 9 := (Gs10 10 9 rfl).trans rfl
  have es10_8 : s10 98 2 = s0 98 2 := (Gs10 98 2 rfl).trans rfl
  have es10_9 : s10 10 10 = s0 10 10 := (Gs10 10 10 rfl).trans rfl
  have es10_10 : s10 99 43 = s0 99 43 := (Gs10 99 43 rfl).trans rfl
  have es10_11 : s10 13 2 = s0 13 2 := (Gs10 13 2 rfl).trans rfl
  have es10_12 : s10 99 18 = s0 99 18 := (Gs10 99 18 rfl).trans rfl
  have es10_13 : s10 16 2 = s0 16 2 := (Gs10 16 2 rfl).trans rfl
  have es10_14 : s10 99 25 = s0 99 25 := (Gs10 99 25 rfl).trans rfl
  have es10_15 : s10 62 0 = s0 62 0 := (Gs10 62 0 rfl).trans rfl
  have es10_16 : s10 110 0 = s0 110 0 := (Gs10 110 0 rfl).trans rfl
  have es10_17 : s10 62 1 = s0 62 1 := (Gs10 62 1 rfl).trans rfl
  have es10_18 : s10 110 1 = s0 110 1 := (Gs10 110 1 rfl).trans rfl
  refine h_pop (pc' := 1377) rfl rfl rfl ?_
  refine h_aload_n (pc' := 1378) rfl rfl rfl ?_
  refine h_aload_n (pc' := 1379) rfl rfl rfl ?_
  refine h_iload_n (pc' := 1380) rfl rfl rfl ?_
  refine h_iconst (pc' := 1381) (x := (Int32.ofInt 1)) rfl rfl rfl ?_
  refine h_iadd (pc' := 1382) rfl rfl hy3 ci_1 rfl (by omega) (by omega) (fun z11 hz11 => ?_)
  refine h_iald (pc' := 1383) (v := s0 0 (b3 + 1)) rfl rfl rfl hz11 (by omega) (by omega) (Zs10 _) (fun z12 hz12 => ?_)
  have tz12 := h_rgv hz12
  refine h_aload_n (pc' := 1384) rfl rfl rfl ?_
  refine h_iload_n (pc' := 1385) rfl rfl rfl ?_
  refine h_iconst (pc' := 1386) (x := (Int32.ofInt 2)) rfl rfl rfl ?_
  refine h_iadd (pc' := 1387) rfl rfl hy3 ci_2 rfl (by omega) (by omega) (fun z13 hz13 => ?_)
  refine h_iald (pc' := 1388) (v := s0 0 (b3 + 2)) rfl rfl rfl hz13 (by omega) (by omega) (Zs10 _) (fun z14 hz14 => ?_)
  have tz14 := h_rgv hz14
  refine h_aload_n (pc' := 1389) rfl rfl rfl ?_
  refine h_iload_n (pc' := 1390) rfl rfl rfl ?_
  refine h_iconst (pc' := 1391) (x := (Int32.ofInt 3)) rfl rfl rfl ?_
  refine h_iadd (pc' := 1392) rfl rfl hy3 ci_3 rfl (by omega) (by omega) (fun z15 hz15 => ?_)
  refine h_iald (pc' := 1393) (v := s0 0 (b3 + 3)) rfl rfl rfl hz15 (by omega) (by omega) (Zs10 _) (fun z16 hz16 => ?_)
  have tz16 := h_rgv hz16
  refine h_aload_n (pc' := 1394) rfl rfl rfl ?_
  refine h_iload_n (pc' := 1395) rfl rfl rfl ?_
  refine h_iconst (pc' := 1396) (x := (Int32.ofInt 4)) rfl rfl rfl ?_
  refine h_iadd (pc' := 1397) rfl rfl hy3 ci_4 rfl (by omega) (by omega) (fun z17 hz17 => ?_)
  refine h_iald (pc' := 1398) (v := s0 0 (b3 + 4)) rfl rfl rfl hz17 (by omega) (by omega) (Zs10 _) (fun z18 hz18 => ?_)
  have tz18 := h_rgv hz18
  refine h_call (sp := false) (pc' := 1401) (M := [(0, .ref 98), (1, .int z12), (2, .int z14), (3, .int z16), (4, .int z18)]) rfl rfl rfl rfl rfl rfl rfl rfl ?_
  refine n_read _ Is10 z12 _ hz12 z14 _ hz14 z16 _ hz16 z18 _ hz18 (fun r19 br19 hr19 s20 Is20 Gs20 tr19 ps20_0 => h_Kv ?_)
  have Zs20 : ∀ i, s20 0 i = s0 0 i := fun i => (Gs20 0 i rfl).trans (Zs10 i)
  have Fs20 : h_F (fun _ _ => true) s20 s0 := fun _ _ h => by cases h
  have es20_0 : s20 64 1 = s0 64 1 := (Gs20 64 1 rfl).trans es10_0
  have es20_1 : s20 98 11 = s0 98 11 := (Gs20 98 11 rfl).trans es10_1
  have es20_2 : s20 64 4 = s0 64 4 := (Gs20 64 4 rfl).trans es10_2
  have es20_3 : s20 98 16 = s0 98 16 := (Gs20 98 16 rfl).trans es10_3
  have es20_4 : s20 63 2 = s0 63 2 := (Gs20 63 2 rfl).trans es10_4
  have es20_5 : s20 10 8 = s0 10 8 := (Gs20 10 8 rfl).trans es10_5
  have es20_6 : s20 98 1 = s0 98 1 := (Gs20 98 1 rfl).trans es10_6
  have es20_7 : s20 10 9 = s0 10 9 := (Gs20 10 9 rfl).trans es10_7
  have es20_8 : s20 98 2 = s0 98 2 := (Gs20 98 2 rfl).trans es10_8
  have es20_9 : s20 10 10 = s0 10 10 := (Gs20 10 10 rfl).trans es10_9
  have es20_11 : s20 13 2 = s0 13 2 := (Gs20 13 2 rfl).trans es10_11
  have es20_13 : s20 16 2 = s0 16 2 := (Gs20 16 2 rfl).trans es10_13
  have es20_15 : s20 62 0 = s0 62 0 := (Gs20 62 0 rfl).trans es10_15
  have es20_16 : s20 110 0 = s0 110 0 := (Gs20 110 0 rfl).trans es10_16
  have es20_17 : s20 62 1 = s0 62 1 := (Gs20 62 1 rfl).trans es10_17
  have es20_18 : s20 110 1 = s0 110 1 := (Gs20 110 1 rfl).trans es10_18
  refine h_pop (pc' := 1402) rfl rfl rfl ?_
  refine h_goto (pc' := 1441) rfl rfl ?_
  exact kk _ Is20 (by first | exact d_tape.le j0 (Int.le_antisymm (by omega) (by omega)) (by omega) (fun j => (Gs20 65 j rfl).trans ((Gs10 65 j rfl))) (fun j => (Gs20 102 j rfl).trans ((Gs10 102 j rfl))) | (exfalso; omega)) (Int.le_antisymm (by omega) (by omega)) (c_R.pag (c_R.fr j2 I0 Gs10 rfl) Is10 Gs20 ps20_0 rfl)
set_option maxHeartbeats 100000000 in
theorem g_case_1405 {ns : Nat} (hns : ns ≤ 320) (s0 : h_S) (I0 : h_I s0) (j0 : d_tape s0 s0) (j1 : s0 64 4 = s0 98 16) (j2 : c_R false s0) (y3 : Int32) (b3 : Int) (hy3 : y3.toInt = b3) (hr : 0 ≤ b3 ∧ b3 + 5 ≤ ns) {Q : Option Value → h_S → Prop} (kk : ∀ τ, h_I τ → (d_tape τ τ) → (τ 64 4 = τ 98 16) → (c_R false τ) → h_T g_P (g_Y ns) 225 1441 [(0, .ref 0), (1, .ref 9), (2, .ref 98), (3, .int y3)] [] τ Q) : h_T g_P (g_Y ns) 225 1405 [(0, .ref 0), (1, .ref 9), (2, .ref 98), (3, .int y3)] [] s0 Q := by
  have F0_ : h_F (fun _ _ => true) s0 s0 := h_F.rf
  have j0_ := j0.2
  have i0 := tf_64_1 I0
  have i1 := tf_98_11 I0
  have i2 := tf_64_4 I0
  have i3 := tf_98_16 I0
  have i4 := tf_63_2 I0
  have i5 := tf_10_8 I0
  have i6 := tf_98_1 I0
  have i7 := tf_10_9 I0
  have i8 := tf_98_2 I0
  have i9 := tf_10_10 I0
  have i11 := tf_13_2 I0
  have i13 := tf_16_2 I0
  have j2_ := j2.sz
  have j2i := j2.2.2.1
  have y43 := ty_99_10 I0 43 (by omega)
  have y18 := ty_99_3 I0 18 (by omega)
  have y25 := ty_99_5 I0 25 (by omega)
  have y62_0 := ty_62 I0 0
  have y62_1 := ty_62 I0 1
  have y110_0 := ty_110 I0 0
  have y110_1 := ty_110 I0 1
  refine h_aload_n (pc' := 1406) rfl rfl rfl ?_
  refine h_call (sp := false) (pc' := 1409) (M := [(0, .ref 9)]) rfl rfl rfl rfl rfl rfl rfl rfl ?_
  refine w_121_9 _ I0  (fun r1 br1 hr1 s2 Is2 Gs2 => h_Kv ?_)
  have Zs2 : ∀ i, s2 0 i = s0 0 i := fun i => (Gs2 0 i rfl).trans rfl
  have Fs2 : h_F (fun _ _ => true) s2 s0 := fun _ _ h => by cases h
  have es2_0 : s2 64 1 = s0 64 1 := (Gs2 64 1 rfl).trans rfl
  have es2_1 : s2 98 11 = s0 98 11 := (Gs2 98 11 rfl).trans rfl
  have es2_2 : s2 64 4 = s0 64 4 := (Gs2 64 4 rfl).trans rfl
  have es2_3 : s2 98 16 = s0 98 16 := (Gs2 98 16 rfl).trans rfl
  have es2_4 : s2 63 2 = s0 63 2 := (Gs2 63 2 rfl).trans rfl
  have es2_5 : s2 10 8 = s0 10 8 := (Gs2 10 8 rfl).trans rfl
  have es2_6 : s2 98 1 = s0 98 1 := (Gs2 98 1 rfl).trans rfl
  have es2_7 : s2 10 9 = s0 10 9 := (Gs2 10 9 rfl).trans rfl
  have es2_8 : s2 98 2 = s0 98 2 := (Gs2 98 2 rfl).trans rfl
  have es2_9 : s2 10 10 = s0 10 10 := (Gs2 10 10 rfl).trans rfl
  have es2_10 : s2 99 43 = s0 99 43 := (Gs2 99 43 rfl).trans rfl
  have es2_11 : s2 13 2 = s0 13 2 := (Gs2 13 2 rfl).trans rfl
  have es2_12 : s2 99 18 = s0 99 18 := (Gs2 99 18 rfl).trans rfl
  have es2_13 : s2 16 2 = s0 16 2 := (Gs2 16 2 rfl).trans rfl
  have es2_14 : s2 99 25 = s0 99 25 := (Gs2 99 25 rfl).trans rfl
  have es2_15 : s2 62 0 = s0 62 0 := (Gs2 62 0 rfl).trans rfl
  have es2_16 : s2 110 0 = s0 110 0 := (Gs2 110 0 rfl).trans rfl
  have es2_17 : s2 62 1 = s0 62 1 := (Gs2 62 1 rfl).trans rfl
  have es2_18 : s2 110 1 = s0 110 1 := (Gs2 110 1 rfl).trans rfl
  refine h_pop (pc' := 1410) rfl rfl rfl ?_
  refine h_aload_n (pc' := 1411) rfl rfl rfl ?_
  refine h_call (sp := false) (pc' := 1414) (M := [(0, .ref 98)]) rfl rfl rfl rfl rfl rfl rfl rfl ?_
  refine w_223_98 _ Is2  (fun r3 br3 hr3 s4 Is4 Gs4 => h_Kv ?_)
  have Zs4 : ∀ i, s4 0 i = s0 0 i := fun i => (Gs4 0 i rfl).trans (Zs2 i)
  have Fs4 : h_F (fun _ _ => true) s4 s0 := fun _ _ h => by cases h
  have es4_0 : s4 64 1 = s0 64 1 := (Gs4 64 1 rfl).trans es2_0
  have es4_1 : s4 98 11 = s0 98 11 := (Gs4 98 11 rfl).trans es2_1
  have es4_2 : s4 64 4 = s0 64 4 := (Gs4 64 4 rfl).trans es2_2
  have es4_3 : s4 98 16 = s0 98 16 := (Gs4 98 16 rfl).trans es2_3
  have es4_4 : s4 63 2 = s0 63 2 := (Gs4 63 2 rfl).trans es2_4
  have es4_5 : s4 10 8 = s0 10 8 := (Gs4 10 8 rfl).trans es2_5
  have es4_6 : s4 98 1 = s0 98 1 := (Gs4 98 1 rfl).trans es2_6
  have es4_7 : s4 10 9 = s0 10 9 := (Gs4 10 9 rfl).trans es2_7
  have es4_8 : s4 98 2 = s0 98 2 := (Gs4 98 2 rfl).trans es2_8
  have es4_9 : s4 10 10 = s0 10 10 := (Gs4 10 10 rfl).trans es2_9
  have es4_10 : s4 99 43 = s0 99 43 := (Gs4 99 43 rfl).trans es2_10
  have es4_11 : s4 13 2 = s0 13 2 := (Gs4 13 2 rfl).trans es2_11
  have es4_12 : s4 99 18 = s0 99 18 := (Gs4 99 18 rfl).trans es2_12
  have es4_13 : s4 16 2 = s0 16 2 := (Gs4 16 2 rfl).trans es2_13
  have es4_14 : s4 99 25 = s0 99 25 := (Gs4 99 25 rfl).trans es2_14
  have es4_15 : s4 62 0 = s0 62 0 := (Gs4 62 0 rfl).trans es2_15
  have es4_16 : s4 110 0 = s0 110 0 := (Gs4 110 0 rfl).trans es2_16
  have es4_17 : s4 62 1 = s0 62 1 := (Gs4 62 1 rfl).trans es2_17
  have es4_18 : s4 110 1 = s0 110 1 := (Gs4 110 1 rfl).trans es2_18
  clear es2_0 es2_1 es2_10 es2_11 es2_12 es2_13 es2_14 es2_15 es2_16 es2_17 es2_18 es2_2 es2_3 es2_4 es2_5 es2_6 es2_7 es2_8 es2_9
  refine h_pop (pc' := 1415) rfl rfl rfl ?_
  refine h_goto (pc' := 1441) rfl rfl ?_
  exact kk _ Is4 (by first | exact d_tape.le j0 (Int.le_antisymm (by omega) (by omega)) (by omega) (fun j => (Gs4 65 j rfl).trans ((Gs2 65 j rfl))) (fun j => (Gs4 102 j rfl).trans ((Gs2 102 j rfl))) | (exfalso; omega)) (Int.le_antisymm (by omega) (by omega)) (c_R.fr (c_R.fr j2 I0 Gs2 rfl) Is2 Gs4 rfl)
set_option maxHeartbeats 100000000 in
theorem g_case_1418 {ns : Nat} (hns : ns ≤ 320) (s0 : h_S) (I0 : h_I s0) (j0 : d_tape s0 s0) (j1 : s0 64 4 = s0 98 16) (j2 : c_R false s0) (y3 : Int32) (b3 : Int) (hy3 : y3.toInt = b3) (hr : 0 ≤ b3 ∧ b3 + 5 ≤ ns) {Q : Option Value → h_S → Prop} (kk : ∀ τ, h_I τ → (d_tape τ τ) → (τ 64 4 = τ 98 16) → (c_R false τ) → h_T g_P (g_Y ns) 225 1441 [(0, .ref 0), (1, .ref 9), (2, .ref 98), (3, .int y3)] [] τ Q) : h_T g_P (g_Y ns) 225 1418 [(0, .ref 0), (1, .ref 9), (2, .ref 98), (3, .int y3)] [] s0 Q := by
  have F0_ : h_F (fun _ _ => true) s0 s0 := h_F.rf
  have j0_ := j0.2
  have i0 := tf_64_1 I0
  have i1 := tf_98_11 I0
  have i2 := tf_64_4 I0
  have i3 := tf_98_16 I0
  have i4 := tf_63_2 I0
  have i5 := tf_10_8 I0
  have i6 := tf_98_1 I0
  have i7 := tf_10_9 I0
  have i8 := tf_98_2 I0
  have i9 := tf_10_10 I0
  have i11 := tf_13_2 I0
  have i13 := tf_16_2 I0
  have j2_ := j2.sz
  have j2i := j2.2.2.1
  have y43 := ty_99_10 I0 43 (by omega)
  have y18 := ty_99_3 I0 18 (by omega)
  have y25 := ty_99_5 I0 25 (by omega)
  have y62_0 := ty_62 I0 0
  have y62_1 := ty_62 I0 1
  have y110_0 := ty_110 I0 0
  have y110_1 := ty_110 I0 1
  refine h_aload_n (pc' := 1419) rfl rfl rfl ?_
  refine h_aload_n (pc' := 1420) rfl rfl rfl ?_
  refine h_iload_n (pc' := 1421) rfl rfl rfl ?_
  refine h_iconst (pc' := 1422) (x := (Int32.ofInt 1)) rfl rfl rfl ?_
  refine h_iadd (pc' := 1423) rfl rfl hy3 ci_1 rfl (by omega) (by omega) (fun z1 hz1 => ?_)
  refine h_iald (pc' := 1424) (v := s0 0 (b3 + 1)) rfl rfl rfl hz1 (by omega) (by omega) rfl (fun z2 hz2 => ?_)
  have tz2 := h_rgv hz2
  refine h_call (sp := false) (pc' := 1427) (M := [(0, .ref 9), (1, .int z2)]) rfl rfl rfl rfl rfl rfl rfl rfl ?_
  refine w_122_9 _ I0 z2 _ hz2 (fun r3 br3 hr3 s4 Is4 Gs4 => h_Kv ?_)
  have Zs4 : ∀ i, s4 0 i = s0 0 i := fun i => (Gs4 0 i rfl).trans rfl
  have Fs4 : h_F (fun _ _ => true) s4 s0 := fun _ _ h => by cases h
  have es4_0 : s4 64 1 = s0 64 1 := (Gs4 64 1 rfl).trans rfl
  have es4_1 : s4 98 11 = s0 98 11 := (Gs4 98 11 rfl).trans rfl
  have es4_2 : s4 64 4 = s0 64 4 := (Gs4 64 4 rfl).trans rfl
  have es4_3 : s4 98 16 = s0 98 16 := (Gs4 98 16 rfl).trans rfl
  have es4_4 : s4 63 2 = s0 63 2 := (Gs4 63 2 rfl).trans rfl
  have es4_5 : s4 10 8 = s0 10 8 := (Gs4 10 8 rfl).trans rfl
  have es4_6 : s4 98 1 = s0 98 1 := (Gs4 98 1 rfl).trans rfl
  have es4_7 : s4 10 9 = s0 10 9 := (Gs4 10 9 rfl).trans rfl
  have es4_8 : s4 98 2 = s0 98 2 := (Gs4 98 2 rfl).trans rfl
  have es4_9 : s4 10 10 = s0 10 10 := (Gs4 10 10 rfl).trans rfl
  have es4_10 : s4 99 43 = s0 99 43 := (Gs4 99 43 rfl).trans rfl
  have es4_11 : s4 13 2 = s0 13 2 := (Gs4 13 2 rfl).trans rfl
  have es4_12 : s4 99 18 = s0 99 18 := (Gs4 99 18 rfl).trans rfl
  have es4_13 : s4 16 2 = s0 16 2 := (Gs4 16 2 rfl).trans rfl
  have es4_14 : s4 99 25 = s0 99 25 := (Gs4 99 25 rfl).trans rfl
  have es4_15 : s4 62 0 = s0 62 0 := (Gs4 62 0 rfl).trans rfl
  have es4_16 : s4 110 0 = s0 110 0 := (Gs4 110 0 rfl).trans rfl
  have es4_17 : s4 62 1 = s0 62 1 := (Gs4 62 1 rfl).trans rfl
  have es4_18 : s4 110 1 = s0 110 1 := (Gs4 110 1 rfl).trans rfl
  refine h_pop (pc' := 1428) rfl rfl rfl ?_
  refine h_aload_n (pc' := 1429) rfl rfl rfl ?_
  refine h_aload_n (pc' := 1430) rfl rfl rfl ?_
  refine h_iload_n (pc' := 1431) rfl rfl rfl ?_
  refine h_iconst (pc' := 1432) (x := (Int32.ofInt 1)) rfl rfl rfl ?_
  refine h_iadd (pc' := 1433) rfl rfl hy3 ci_1 rfl (by omega) (by omega) (fun z5 hz5 => ?_)
  refine h_iald (pc' := 1434) (v := s0 0 (b3 + 1)) rfl rfl rfl hz5 (by omega) (by omega) (Zs4 _) (fun z6 hz6 => ?_)
  have tz6 := h_rgv hz6
  refine h_call (sp := false) (pc' := 1437) (M := [(0, .ref 98), (1, .int z6)]) rfl rfl rfl rfl rfl rfl rfl rfl ?_
  refine w_224_98 _ Is4 z6 _ hz6 (fun r7 br7 hr7 s8 Is8 Gs8 => h_Kv ?_)
  have Zs8 : ∀ i, s8 0 i = s0 0 i := fun i => (Gs8 0 i rfl).trans (Zs4 i)
  have Fs8 : h_F (fun _ _ => true) s8 s0 := fun _ _ h => by cases h
  have es8_0 : s8 64 1 = s0 64 1 := (Gs8 64 1 rfl).trans es4_0
  have es8_1 : s8 98 11 = s0 98 11 := (Gs8 98 11 rfl).trans es4_1
  have es8_2 : s8 64 4 = s0 64 4 := (Gs8 64 4 rfl).trans es4_2
  have es8_3 : s8 98 16 = s0 98 16 := (Gs8 98 16 rfl).trans es4_3
  have es8_4 : s8 63 2 = s0 63 2 := (Gs8 63 2 rfl).trans es4_4
  have es8_5 : s8 10 8 = s0 10 8 := (Gs8 10 8 rfl).trans es4_5
  have es8_6 : s8 98 1 = s0 98 1 := (Gs8 98 1 rfl).trans es4_6
  have es8_7 : s8 10 9 = s0 10 9 := (Gs8 10 9 rfl).trans es4_7
  have es8_8 : s8 98 2 = s0 98 2 := (Gs8 98 2 rfl).trans es4_8
  have es8_9 : s8 10 10 = s0 10 10 := (Gs8 10 10 rfl).trans es4_9
  have es8_10 : s8 99 43 = s0 99 43 := (Gs8 99 43 rfl).trans es4_10
  have es8_11 : s8 13 2 = s0 13 2 := (Gs8 13 2 rfl).trans es4_11
  have es8_12 : s8 99 18 = s0 99 18 := (Gs8 99 18 rfl).trans es4_12
  have es8_13 : s8 16 2 = s0 16 2 := (Gs8 16 2 rfl).trans es4_13
  have es8_14 : s8 99 25 = s0 99 25 := (Gs8 99 25 rfl).trans es4_14
  have es8_15 : s8 62 0 = s0 62 0 := (Gs8 62 0 rfl).trans es4_15
  have es8_16 : s8 110 0 = s0 110 0 := (Gs8 110 0 rfl).trans es4_16
  have es8_17 : s8 62 1 = s0 62 1 := (Gs8 62 1 rfl).trans es4_17
  have es8_18 : s8 110 1 = s0 110 1 := (Gs8 110 1 rfl).trans es4_18
  clear es4_0 es4_1 es4_10 es4_11 es4_12 es4_13 es4_14 es4_15 es4_16 es4_17 es4_18 es4_2 es4_3 es4_4 es4_5 es4_6 es4_7 es4_8 es4_9
  refine h_pop (pc' := 1438) rfl rfl rfl ?_
  refine h_goto (pc' := 1441) rfl rfl ?_
  exact kk _ Is8 (by first | exact d_tape.le j0 (Int.le_antisymm (by omega) (by omega)) (by omega) (fun j => (Gs8 65 j rfl).trans ((Gs4 65 j rfl))) (fun j => (Gs8 102 j rfl).trans ((Gs4 102 j rfl))) | (exfalso; omega)) (Int.le_antisymm (by omega) (by omega)) (c_R.fr (c_R.fr j2 I0 Gs4 rfl) Is4 Gs8 rfl)
theorem g_loop {ns : Nat} (hns : ns ≤ 320) : ∀ (n : Nat) (s0 : h_S), h_I s0 → (d_tape s0 s0) → (s0 64 4 = s0 98 16) → (c_R false s0) → ∀ (y3 : Int32) (b3 : Int), y3.toInt = b3 → (0 ≤ b3 ∧ b3 ≤ 320) → 321 - b3 ≤ (n : Int) → h_T g_P (g_Y ns) 225 18 [(0, .ref 0), (1, .ref 9), (2, .ref 98), (3, .int y3)] [] s0 (fun r _ => r = some (.int 1)) := by
  have hnn : (Int32.ofNat ns).toInt = (ns : Int) := nI_toInt (by omega)
  intro n
  induction n with
  | zero => intro s0 I0 j0 j1 j2 y3 b3 hy3 hr hm; exfalso; omega
  | succ n ih =>
    intro s0 I0 j0 j1 j2 y3 b3 hy3 hr hm
    have nx : ∀ τ, h_I τ → (d_tape τ τ) → (τ 64 4 = τ 98 16) → (c_R false τ) → b3 + 5 ≤ 320 → h_T g_P (g_Y ns) 225 1441 [(0, .ref 0), (1, .ref 9), (2, .ref 98), (3, .int y3)] [] τ (fun r _ => r = some (.int 1)) := by
      intro τ I1 k0 k1 k2 h5
      refine h_iinc (pc' := 1444) (M := fun z => [(3, .int z), (0, .ref 0), (1, .ref 9), (2, .ref 98)]) rfl rfl rfl rfl hy3 ci_5 rfl (by omega) (by omega) (fun _ => rfl) (fun z hz => ?_)
      refine h_goto (pc' := 18) rfl rfl ?_
      exact h_wk [(0, .ref 0), (1, .ref 9), (2, .ref 98), (3, .int z)] ⟨rfl, rfl, rfl, rfl, trivial⟩ (ih _ I1 k0 k1 k2 z _ hz (by omega) (by omega))
    refine h_iload_n (pc' := 19) rfl rfl rfl ?_
    refine h_aload_n (pc' := 20) rfl rfl rfl ?_
    refine h_alen (pc' := 21) (n := (ns : Int)) rfl rfl rfl hnn (fun z1 hz1 => ?_)
    refine h_iconst (pc' := 22) (x := (Int32.ofInt 5)) rfl rfl rfl ?_
    refine h_isub (pc' := 23) rfl rfl hz1 ci_5 rfl (by omega) (by omega) (fun z2 hz2 => ?_)
    refine h_cgt (tg := 1447) (pc' := 26) rfl rfl rfl hy3 hz2 (fun c3 => ?_) (fun c3 => ?_)
    · refine h_iconst (pc' := 1448) (x := (Int32.ofInt 1)) rfl rfl rfl ?_
      exact h_zret rfl rfl ci_1 (by omega) rfl
    · refine h_aload_n (pc' := 27) rfl rfl rfl ?_
      refine h_iload_n (pc' := 28) rfl rfl rfl ?_
      refine h_iald (pc' := 29) (v := s0 0 b3) rfl rfl rfl hy3 (by omega) (by omega) rfl (fun z4 hz4 => ?_)
      have tz4 := h_rgv hz4
      refine h_bipush (pc' := 31) (x := (Int32.ofInt 63)) rfl rfl cb_63 ?_
      refine h_iand (pc' := 32) rfl rfl (fun z5 hz5 uz5 vz5 => ?_)
      clear uz5
      rw [ci_63] at vz5
      have yz5 := vz5 (by omega)
      refine h_tsw (dt := 1441) (ts := [212, 235, 258, 271, 284, 307, 340, 373, 406, 429, 462, 495, 538, 571, 604, 637, 680, 703, 726, 759, 782, 805, 838, 881, 914, 927, 950, 983, 1026, 1075, 1098, 1121, 1144, 1177, 1220, 1243, 1266, 1309, 1352, 1405, 1418]) rfl rfl rfl rfl rfl (fun c6 => ?_) ⟨fun c6 => ?_, fun c6 => ?_, fun c6 => ?_, fun c6 => ?_, fun c6 => ?_, fun c6 => ?_, fun c6 => ?_, fun c6 => ?_, fun c6 => ?_, fun c6 => ?_, fun c6 => ?_, fun c6 => ?_, fun c6 => ?_, fun c6 => ?_, fun c6 => ?_, fun c6 => ?_, fun c6 => ?_, fun c6 => ?_, fun c6 => ?_, fun c6 => ?_, fun c6 => ?_, fun c6 => ?_, fun c6 => ?_, fun c6 => ?_, fun c6 => ?_, fun c6 => ?_, fun c6 => ?_, fun c6 => ?_, fun c6 => ?_, fun c6 => ?_, fun c6 => ?_, fun c6 => ?_, fun c6 => ?_, fun c6 => ?_, fun c6 => ?_, fun c6 => ?_, fun c6 => ?_, fun c6 => ?_, fun c6 => ?_, fun c6 => ?_, fun c6 => ?_, trivial⟩
      · exact nx _ I0 j0 j1 j2 (by omega)
      · exact g_case_212 hns _ I0 j0 j1 j2 y3 b3 hy3 (by omega) (fun τ I1 k0 k1 k2 => nx τ I1 k0 k1 k2 (by omega))
      · exact g_case_235 hns _ I0 j0 j1 j2 y3 b3 hy3 (by omega) (fun τ I1 k0 k1 k2 => nx τ I1 k0 k1 k2 (by omega))
      · exact g_case_258 hns _ I0 j0 j1 j2 y3 b3 hy3 (by omega) (fun τ I1 k0 k1 k2 => nx τ I1 k0 k1 k2 (by omega))
      · exact g_case_271 hns _ I0 j0 j1 j2 y3 b3 hy3 (by omega) (fun τ I1 k0 k1 k2 => nx τ I1 k0 k1 k2 (by omega))
      · exact g_case_284 hns _ I0 j0 j1 j2 y3 b3 hy3 (by omega) (fun τ I1 k0 k1 k2 => nx τ I1 k0 k1 k2 (by omega))
      · exact g_case_307 hns _ I0 j0 j1 j2 y3 b3 hy3 (by omega) (fun τ I1 k0 k1 k2 => nx τ I1 k0 k1 k2 (by omega))
      · exact g_case_340 hns _ I0 j0 j1 j2 y3 b3 hy3 (by omega) (fun τ I1 k0 k1 k2 => nx τ I1 k0 k1 k2 (by omega))
      · exact g_case_373 hns _ I0 j0 j1 j2 y3 b3 hy3 (by omega) (fun τ I1 k0 k1 k2 => nx τ I1 k0 k1 k2 (by omega))
      · exact g_case_406 hns _ I0 j0 j1 j2 y3 b3 hy3 (by omega) (fun τ I1 k0 k1 k2 => nx τ I1 k0 k1 k2 (by omega))
      · exact g_case_429 hns _ I0 j0 j1 j2 y3 b3 hy3 (by omega) (fun τ I1 k0 k1 k2 => nx τ I1 k0 k1 k2 (by omega))
      · exact g_case_462 hns _ I0 j0 j1 j2 y3 b3 hy3 (by omega) (fun τ I1 k0 k1 k2 => nx τ I1 k0 k1 k2 (by omega))
      · exact g_case_495 hns _ I0 j0 j1 j2 y3 b3 hy3 (by omega) (fun τ I1 k0 k1 k2 => nx τ I1 k0 k1 k2 (by omega))
      · exact g_case_538 hns _ I0 j0 j1 j2 y3 b3 hy3 (by omega) (fun τ I1 k0 k1 k2 => nx τ I1 k0 k1 k2 (by omega))
      · exact g_case_571 hns _ I0 j0 j1 j2 y3 b3 hy3 (by omega) (fun τ I1 k0 k1 k2 => nx τ I1 k0 k1 k2 (by omega))
      · exact g_case_604 hns _ I0 j0 j1 j2 y3 b3 hy3 (by omega) (fun τ I1 k0 k1 k2 => nx τ I1 k0 k1 k2 (by omega))
      · exact g_case_637 hns _ I0 j0 j1 j2 y3 b3 hy3 (by omega) (fun τ I1 k0 k1 k2 => nx τ I1 k0 k1 k2 (by omega))
      · exact g_case_680 hns _ I0 j0 j1 j2 y3 b3 hy3 (by omega) (fun τ I1 k0 k1 k2 => nx τ I1 k0 k1 k2 (by omega))
      · exact g_case_703 hns _ I0 j0 j1 j2 y3 b3 hy3 (by omega) (fun τ I1 k0 k1 k2 => nx τ I1 k0 k1 k2 (by omega))
      · exact g_case_726 hns _ I0 j0 j1 j2 y3 b3 hy3 (by omega) (fun τ I1 k0 k1 k2 => nx τ I1 k0 k1 k2 (by omega))
      · exact g_case_759 hns _ I0 j0 j1 j2 y3 b3 hy3 (by omega) (fun τ I1 k0 k1 k2 => nx τ I1 k0 k1 k2 (by omega))
      · exact g_case_782 hns _ I0 j0 j1 j2 y3 b3 hy3 (by omega) (fun τ I1 k0 k1 k2 => nx τ I1 k0 k1 k2 (by omega))
      · exact g_case_805 hns _ I0 j0 j1 j2 y3 b3 hy3 (by omega) (fun τ I1 k0 k1 k2 => nx τ I1 k0 k1 k2 (by omega))
      · exact g_case_838 hns _ I0 j0 j1 j2 y3 b3 hy3 (by omega) (fun τ I1 k0 k1 k2 => nx τ I1 k0 k1 k2 (by omega))
      · exact g_case_881 hns _ I0 j0 j1 j2 y3 b3 hy3 (by omega) (fun τ I1 k0 k1 k2 => nx τ I1 k0 k1 k2 (by omega))
      · exact g_case_914 hns _ I0 j0 j1 j2 y3 b3 hy3 (by omega) (fun τ I1 k0 k1 k2 => nx τ I1 k0 k1 k2 (by omega))
      · exact g_case_927 hns _ I0 j0 j1 j2 y3 b3 hy3 (by omega) (fun τ I1 k0 k1 k2 => nx τ I1 k0 k1 k2 (by omega))
      · exact g_case_950 hns _ I0 j0 j1 j2 y3 b3 hy3 (by omega) (fun τ I1 k0 k1 k2 => nx τ I1 k0 k1 k2 (by omega))
      · exact g_case_983 hns _ I0 j0 j1 j2 y3 b3 hy3 (by omega) (fun τ I1 k0 k1 k2 => nx τ I1 k0 k1 k2 (by omega))
      · exact g_case_1026 hns _ I0 j0 j1 j2 y3 b3 hy3 (by omega) (fun τ I1 k0 k1 k2 => nx τ I1 k0 k1 k2 (by omega))
      · exact g_case_1075 hns _ I0 j0 j1 j2 y3 b3 hy3 (by omega) (fun τ I1 k0 k1 k2 => nx τ I1 k0 k1 k2 (by omega))
      · exact g_case_1098 hns _ I0 j0 j1 j2 y3 b3 hy3 (by omega) (fun τ I1 k0 k1 k2 => nx τ I1 k0 k1 k2 (by omega))
      · exact g_case_1121 hns _ I0 j0 j1 j2 y3 b3 hy3 (by omega) (fun τ I1 k0 k1 k2 => nx τ I1 k0 k1 k2 (by omega))
      · exact g_case_1144 hns _ I0 j0 j1 j2 y3 b3 hy3 (by omega) (fun τ I1 k0 k1 k2 => nx τ I1 k0 k1 k2 (by omega))
      · exact g_case_1177 hns _ I0 j0 j1 j2 y3 b3 hy3 (by omega) (fun τ I1 k0 k1 k2 => nx τ I1 k0 k1 k2 (by omega))
      · exact g_case_1220 hns _ I0 j0 j1 j2 y3 b3 hy3 (by omega) (fun τ I1 k0 k1 k2 => nx τ I1 k0 k1 k2 (by omega))
      · exact g_case_1243 hns _ I0 j0 j1 j2 y3 b3 hy3 (by omega) (fun τ I1 k0 k1 k2 => nx τ I1 k0 k1 k2 (by omega))
      · exact g_case_1266 hns _ I0 j0 j1 j2 y3 b3 hy3 (by omega) (fun τ I1 k0 k1 k2 => nx τ I1 k0 k1 k2 (by omega))
      · exact g_case_1309 hns _ I0 j0 j1 j2 y3 b3 hy3 (by omega) (fun τ I1 k0 k1 k2 => nx τ I1 k0 k1 k2 (by omega))
      · exact g_case_1352 hns _ I0 j0 j1 j2 y3 b3 hy3 (by omega) (fun τ I1 k0 k1 k2 => nx τ I1 k0 k1 k2 (by omega))
      · exact g_case_1405 hns _ I0 j0 j1 j2 y3 b3 hy3 (by omega) (fun τ I1 k0 k1 k2 => nx τ I1 k0 k1 k2 (by omega))
      · exact g_case_1418 hns _ I0 j0 j1 j2 y3 b3 hy3 (by omega) (fun τ I1 k0 k1 k2 => nx τ I1 k0 k1 k2 (by omega))
theorem x_lv_ok : h_loc [(0, .ref 0), (1, .ref 9), (2, .ref 98), (3, .int 0)] x_lv := by
  intro p hp
  simp only [List.mem_cons, List.not_mem_nil, or_false] at hp
  rcases hp with rfl | rfl | rfl | rfl <;> rfl
theorem x_j0 (l : List Int32) : d_tape (f_σ l) (f_σ l) := d_tape.z (by rw [f_at (q := 64) (j := 1) rfl]; decide) (by rw [f_at (q := 98) (j := 11) rfl]; decide)
theorem x_j1 (l : List Int32) : f_σ l 64 4 = f_σ l 98 16 := by
  rw [f_at (q := 64) (j := 4) rfl, f_at (q := 98) (j := 16) rfl]
  decide
theorem x_j2 (l : List Int32) : c_R false (f_σ l) := c_R.zero (by rw [f_at (q := 10) (j := 8) rfl]; decide) (by rw [f_at (q := 10) (j := 9) rfl]; decide) (by rw [f_at (q := 10) (j := 10) rfl]; decide) (by rw [f_at (q := 13) (j := 2) rfl]; decide) (by rw [f_at (q := 16) (j := 2) rfl]; decide) (by rw [f_at (q := 98) (j := 1) rfl]; decide) (by rw [f_at (q := 98) (j := 2) rfl]; decide) (by rw [f_at (q := 99) (j := 43) rfl]; decide) (by rw [f_at (q := 99) (j := 18) rfl]; decide) (by rw [f_at (q := 99) (j := 25) rfl]; decide) (by rw [f_at (q := 62) (j := 0) rfl]; decide) (by rw [f_at (q := 62) (j := 1) rfl]; decide) (by rw [f_at (q := 110) (j := 0) rfl]; decide) (by rw [f_at (q := 110) (j := 1) rfl]; decide)
set_option maxRecDepth 1000000 in
theorem g_law_run (l : List Int32) (hl : l.length ≤ 320) : ∃ (n : Nat) (mem' : List e_C), e_run g_P n g_law 0 [(0, .ref 0)] [] (.inl (false, l) :: x_t8) = some (some (.int 1), mem') ∧ mem'.length = 114 ∧ e_sl mem' = 2414 + l.length := by
  obtain ⟨y, τ, h1, h2, h3⟩ := g_loop hl 400 (f_σ l) (f_I0 l) (x_j0 l) (x_j1 l) (x_j2 l) 0 0 rfl (by omega) (by omega) x_lv (.inl (false, l) :: x_full) x_lv_ok (f_R0 l)
  obtain ⟨n, hn⟩ := f_law _ h1
  obtain ⟨r, mem'⟩ := y
  have h3 : r = some (.int 1) := h3
  subst h3
  exact ⟨n, mem', hn, h2.1, h2.2.1⟩
