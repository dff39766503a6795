set_option maxHeartbeats 100000000 in
theorem g_case_340 {ns : Nat} (hns : ns ≤ 320) (s0 : h_S) (I0 : h_I s0) (j0 : d_tape s0 s0) (j1 : s0 64 4 = s0 98 16) (j2 : c_R true s0) (j3 : g_ti s0) (j4 : g_SH s0) (y3 : Int32) (b3 : Int) (hy3 : y3.toInt = b3) (hr : 0 ≤ b3 ∧ b3 + 5 ≤ ns) {Q : Option Value → h_S → Prop} (kk : ∀ τ, h_I τ → (d_tape τ τ) → (τ 64 4 = τ 98 16) → (c_R true τ) → (g_ti τ) → (g_SH τ) → h_T g_P (g_Y ns) 225 1441 [(0, .ref 0), (1, .ref 9), (2, .ref 98), (3, .int y3)] [] τ Q) : h_T g_P (g_Y ns) 225 340 [(0, .ref 0), (1, .ref 9), (2, .ref 98), (3, .int y3)] [] s0 Q := by
  have F0_ : h_F (fun _ _ => true) s0 s0 := h_F.rf
  have j0_ := j0.2
  have i0 := tf_64_1 I0
  have i1 := tf_98_11 I0
  have i2 := tf_64_4 I0
  have i3 := tf_98_16 I0
  have i4 := tf_10_9 I0
  have i5 := tf_98_2 I0
  have j2_ := j2.sz
  refine h_aload_n (pc' := 341) rfl rfl rfl ?_
  refine h_aload_n (pc' := 342) rfl rfl rfl ?_
  refine h_iload_n (pc' := 343) rfl rfl rfl ?_
  refine h_iconst (pc' := 344) (x := (Int32.ofInt 1)) rfl rfl rfl ?_
  refine h_iadd (pc' := 345) rfl rfl hy3 ci_1 rfl (by omega) (by omega) (fun z1 hz1 => ?_)
  refine h_iald (pc' := 346) (v := s0 0 (b3 + 1)) rfl rfl rfl hz1 (by omega) (by omega) rfl (fun z2 hz2 => ?_)
  have tz2 := h_rgv hz2
  clear hz1
  refine h_aload_n (pc' := 347) rfl rfl rfl ?_
  refine h_iload_n (pc' := 348) rfl rfl rfl ?_
  refine h_iconst (pc' := 349) (x := (Int32.ofInt 2)) rfl rfl rfl ?_
  refine h_iadd (pc' := 350) rfl rfl hy3 ci_2 rfl (by omega) (by omega) (fun z3 hz3 => ?_)
  refine h_iald (pc' := 351) (v := s0 0 (b3 + 2)) rfl rfl rfl hz3 (by omega) (by omega) rfl (fun z4 hz4 => ?_)
  have tz4 := h_rgv hz4
  clear hz3
  refine h_call (sp := false) (pc' := 354) (M := [(0, .ref 9), (1, .int z2), (2, .int z4)]) rfl rfl rfl rfl rfl rfl rfl rfl ?_
  refine h_aload_n (pc' := 1) rfl rfl rfl ?_
  refine h_getR (pc' := 4) rfl rfl rfl rfl rfl ?_
  refine h_iload_n (pc' := 5) rfl rfl rfl ?_
  refine h_call (sp := false) (pc' := 8) (M := [(0, .ref 10), (1, .int z2)]) rfl rfl rfl rfl rfl rfl rfl rfl ?_
  refine h_iload_n (pc' := 1) rfl rfl rfl ?_
  refine h_zlt (tg := 16) (pc' := 4) rfl rfl rfl hz2 (fun c5 => ?_) (fun c5 => ?_)
  · refine h_iconst (pc' := 17) (x := (Int32.ofInt 0)) rfl rfl rfl ?_
    refine h_zret rfl rfl ci_0 (by omega) (h_Kv ?_)
    refine h_zne (tg := 13) (pc' := 11) rfl rfl rfl ci_0 (fun c6 => absurd (Int.le_antisymm (by omega) (by omega)) c6) (fun c6 => ?_)
    refine h_iconst (pc' := 12) (x := (Int32.ofInt (-1))) rfl rfl rfl ?_
    refine h_iret rfl rfl (h_Kv ?_)
    clear hz2 hz4
    refine h_aload_n (pc' := 355) rfl rfl rfl ?_
    refine h_aload_n (pc' := 356) rfl rfl rfl ?_
    refine h_iload_n (pc' := 357) rfl rfl rfl ?_
    refine h_iconst (pc' := 358) (x := (Int32.ofInt 1)) rfl rfl rfl ?_
    refine h_iadd (pc' := 359) rfl rfl hy3 ci_1 rfl (by omega) (by omega) (fun z7 hz7 => ?_)
    refine h_iald (pc' := 360) (v := s0 0 (b3 + 1)) rfl rfl rfl hz7 (by omega) (by omega) rfl (fun z8 hz8 => ?_)
    have tz8 := h_rgv hz8
    clear hz7
    refine h_aload_n (pc' := 361) rfl rfl rfl ?_
    refine h_iload_n (pc' := 362) rfl rfl rfl ?_
    refine h_iconst (pc' := 363) (x := (Int32.ofInt 2)) rfl rfl rfl ?_
    refine h_iadd (pc' := 364) rfl rfl hy3 ci_2 rfl (by omega) (by omega) (fun z9 hz9 => ?_)
    refine h_iald (pc' := 365) (v := s0 0 (b3 + 2)) rfl rfl rfl hz9 (by omega) (by omega) rfl (fun z10 hz10 => ?_)
    have tz10 := h_rgv hz10
    clear hz9
    refine h_call (sp := false) (pc' := 368) (M := [(0, .ref 98), (1, .int z8), (2, .int z10)]) rfl rfl rfl rfl rfl rfl rfl rfl ?_
    refine h_aload_n (pc' := 1) rfl rfl rfl ?_
    refine h_iload_n (pc' := 2) rfl rfl rfl ?_
    refine h_call (sp := false) (pc' := 5) (M := [(0, .ref 98), (1, .int z8)]) rfl rfl rfl rfl rfl rfl rfl rfl ?_
    refine h_iload_n (pc' := 1) rfl rfl rfl ?_
    refine h_i2l (pc' := 2) rfl rfl hz8 (fun z11 hz11 => ?_)
    refine h_lconst (pc' := 3) (x := (Int64.ofInt 0)) rfl rfl rfl ?_
    refine h_aload_n (pc' := 4) rfl rfl rfl ?_
    refine h_getI (pc' := 7) (v := s0 98 2) rfl rfl rfl rfl rfl rfl (fun z12 hz12 => ?_)
    have tz12 := tf_98_2 I0
    refine h_iconst (pc' := 8) (x := (Int32.ofInt 1)) rfl rfl rfl ?_
    refine h_isub (pc' := 9) rfl rfl hz12 ci_1 rfl (by omega) (by omega) (fun z13 hz13 => ?_)
    clear hz12
    refine h_i2l (pc' := 10) rfl rfl hz13 (fun z14 hz14 => ?_)
    clear hz13
    refine h_calls (pc' := 13) (M := [(0, .long z11), (2, .long (Int64.ofInt 0)), (4, .long z14)]) rfl rfl rfl rfl rfl rfl ?_
    refine h_lload_n (pc' := 1) rfl rfl rfl ?_
    refine h_lload_n (pc' := 2) rfl rfl rfl ?_
    refine h_lcmp (pc' := 3) rfl rfl hz11 cl_0 (fun z15 hz15 => ?_)
    refine h_zlt (tg := 17) (pc' := 6) rfl rfl rfl rfl (fun c16 => ?_) (fun c16 => absurd c16 (by omega))
    replace c16 := (h_lcr hz15).1 c16
    clear hz15
    refine h_iconst (pc' := 18) (x := (Int32.ofInt 0)) rfl rfl rfl ?_
    refine h_zret rfl rfl ci_0 (by omega) (h_Kv ?_)
    clear hz11 hz14
    refine h_zret rfl rfl ci_0 (by omega) (h_Kv ?_)
    refine h_zne (tg := 10) (pc' := 8) rfl rfl rfl ci_0 (fun c17 => absurd (Int.le_antisymm (by omega) (by omega)) c17) (fun c17 => ?_)
    refine h_iconst (pc' := 9) (x := (Int32.ofInt (-1))) rfl rfl rfl ?_
    refine h_iret rfl rfl (h_Kv ?_)
    clear hz10 hz8
    refine h_ceq (tg := 1441) (pc' := 371) rfl rfl rfl ci_m1 ci_m1 (fun c18 => ?_) (fun c18 => absurd (Int.le_antisymm (by omega) (by omega)) c18)
    exact kk _ I0 (by first | exact d_tape.le j0 (Int.le_antisymm (by omega) (by omega)) (by omega) (fun j => rfl) (fun j => rfl) | (exfalso; omega)) (Int.le_antisymm (by omega) (by omega)) j2 (g_ti.e j3 rfl) (g_SH.e j4 rfl rfl rfl rfl rfl rfl)
  · refine h_iload_n (pc' := 5) rfl rfl rfl ?_
    refine h_aload_n (pc' := 6) rfl rfl rfl ?_
    refine h_getI (pc' := 9) (v := s0 10 9) rfl rfl rfl rfl rfl rfl (fun z19 hz19 => ?_)
    have tz19 := tf_10_9 I0
    refine h_cge (tg := 16) (pc' := 12) rfl rfl rfl hz2 hz19 (fun c20 => ?_) (fun c20 => ?_)
    · clear hz19
      refine h_iconst (pc' := 17) (x := (Int32.ofInt 0)) rfl rfl rfl ?_
      refine h_zret rfl rfl ci_0 (by omega) (h_Kv ?_)
      refine h_zne (tg := 13) (pc' := 11) rfl rfl rfl ci_0 (fun c21 => absurd (Int.le_antisymm (by omega) (by omega)) c21) (fun c21 => ?_)
      refine h_iconst (pc' := 12) (x := (Int32.ofInt (-1))) rfl rfl rfl ?_
      refine h_iret rfl rfl (h_Kv ?_)
      clear hz2 hz4
      refine h_aload_n (pc' := 355) rfl rfl rfl ?_
      refine h_aload_n (pc' := 356) rfl rfl rfl ?_
      refine h_iload_n (pc' := 357) rfl rfl rfl ?_
      refine h_iconst (pc' := 358) (x := (Int32.ofInt 1)) rfl rfl rfl ?_
      refine h_iadd (pc' := 359) rfl rfl hy3 ci_1 rfl (by omega) (by omega) (fun z22 hz22 => ?_)
      refine h_iald (pc' := 360) (v := s0 0 (b3 + 1)) rfl rfl rfl hz22 (by omega) (by omega) rfl (fun z23 hz23 => ?_)
      have tz23 := h_rgv hz23
      clear hz22
      refine h_aload_n (pc' := 361) rfl rfl rfl ?_
      refine h_iload_n (pc' := 362) rfl rfl rfl ?_
      refine h_iconst (pc' := 363) (x := (Int32.ofInt 2)) rfl rfl rfl ?_
      refine h_iadd (pc' := 364) rfl rfl hy3 ci_2 rfl (by omega) (by omega) (fun z24 hz24 => ?_)
      refine h_iald (pc' := 365) (v := s0 0 (b3 + 2)) rfl rfl rfl hz24 (by omega) (by omega) rfl (fun z25 hz25 => ?_)
      have tz25 := h_rgv hz25
      clear hz24
      refine h_call (sp := false) (pc' := 368) (M := [(0, .ref 98), (1, .int z23), (2, .int z25)]) rfl rfl rfl rfl rfl rfl rfl rfl ?_
      refine h_aload_n (pc' := 1) rfl rfl rfl ?_
      refine h_iload_n (pc' := 2) rfl rfl rfl ?_
      refine h_call (sp := false) (pc' := 5) (M := [(0, .ref 98), (1, .int z23)]) rfl rfl rfl rfl rfl rfl rfl rfl ?_
      refine h_iload_n (pc' := 1) rfl rfl rfl ?_
      refine h_i2l (pc' := 2) rfl rfl hz23 (fun z26 hz26 => ?_)
      refine h_lconst (pc' := 3) (x := (Int64.ofInt 0)) rfl rfl rfl ?_
      refine h_aload_n (pc' := 4) rfl rfl rfl ?_
      refine h_getI (pc' := 7) (v := s0 98 2) rfl rfl rfl rfl rfl rfl (fun z27 hz27 => ?_)
      have tz27 := tf_98_2 I0
      refine h_iconst (pc' := 8) (x := (Int32.ofInt 1)) rfl rfl rfl ?_
      refine h_isub (pc' := 9) rfl rfl hz27 ci_1 rfl (by omega) (by omega) (fun z28 hz28 => ?_)
      clear hz27
      refine h_i2l (pc' := 10) rfl rfl hz28 (fun z29 hz29 => ?_)
      clear hz28
      refine h_calls (pc' := 13) (M := [(0, .long z26), (2, .long (Int64.ofInt 0)), (4, .long z29)]) rfl rfl rfl rfl rfl rfl ?_
      refine h_lload_n (pc' := 1) rfl rfl rfl ?_
      refine h_lload_n (pc' := 2) rfl rfl rfl ?_
      refine h_lcmp (pc' := 3) rfl rfl hz26 cl_0 (fun z30 hz30 => ?_)
      refine h_zlt (tg := 17) (pc' := 6) rfl rfl rfl rfl (fun c31 => absurd c31 (by omega)) (fun c31 => ?_)
      replace c31 := (h_lcr hz30).2.1 c31
      clear hz30
      refine h_lload_n (pc' := 7) rfl rfl rfl ?_
      refine h_lload (pc' := 9) rfl rfl rfl ?_
      refine h_lcmp (pc' := 10) rfl rfl hz26 hz29 (fun z32 hz32 => ?_)
      refine h_zgt (tg := 17) (pc' := 13) rfl rfl rfl rfl (fun c33 => ?_) (fun c33 => absurd c33 (by omega))
      replace c33 := (h_lcr hz32).2.2.2.1 c33
      clear hz32
      refine h_iconst (pc' := 18) (x := (Int32.ofInt 0)) rfl rfl rfl ?_
      refine h_zret rfl rfl ci_0 (by omega) (h_Kv ?_)
      clear hz26 hz29
      refine h_zret rfl rfl ci_0 (by omega) (h_Kv ?_)
      refine h_zne (tg := 10) (pc' := 8) rfl rfl rfl ci_0 (fun c34 => absurd (Int.le_antisymm (by omega) (by omega)) c34) (fun c34 => ?_)
      refine h_iconst (pc' := 9) (x := (Int32.ofInt (-1))) rfl rfl rfl ?_
      refine h_iret rfl rfl (h_Kv ?_)
      clear hz23 hz25
      refine h_ceq (tg := 1441) (pc' := 371) rfl rfl rfl ci_m1 ci_m1 (fun c35 => ?_) (fun c35 => absurd (Int.le_antisymm (by omega) (by omega)) c35)
      exact kk _ I0 (by first | exact d_tape.le j0 (Int.le_antisymm (by omega) (by omega)) (by omega) (fun j => rfl) (fun j => rfl) | (exfalso; omega)) (Int.le_antisymm (by omega) (by omega)) j2 (g_ti.e j3 rfl) (g_SH.e j4 rfl rfl rfl rfl rfl rfl)
    · clear hz19
      refine h_iconst (pc' := 13) (x := (Int32.ofInt 1)) rfl rfl rfl ?_
      refine h_goto (pc' := 17) rfl rfl ?_
      refine h_zret rfl rfl ci_1 (by omega) (h_Kv ?_)
      refine h_zne (tg := 13) (pc' := 11) rfl rfl rfl ci_1 (fun c36 => ?_) (fun c36 => absurd c36 (by omega))
      refine h_iload_n (pc' := 14) rfl rfl rfl ?_
      refine h_tsw (dt := 111) (ts := [44, 54, 64, 74]) rfl rfl rfl rfl hz4 (fun c37 => ?_) ⟨fun c37 => ?_, fun c37 => ?_, fun c37 => ?_, fun c37 => ?_, trivial⟩
      · refine h_iconst (pc' := 112) (x := (Int32.ofInt (-1))) rfl rfl rfl ?_
        refine h_iret rfl rfl (h_Kv ?_)
        clear hz2 hz4
        refine h_aload_n (pc' := 355) rfl rfl rfl ?_
        refine h_aload_n (pc' := 356) rfl rfl rfl ?_
        refine h_iload_n (pc' := 357) rfl rfl rfl ?_
        refine h_iconst (pc' := 358) (x := (Int32.ofInt 1)) rfl rfl rfl ?_
        refine h_iadd (pc' := 359) rfl rfl hy3 ci_1 rfl (by omega) (by omega) (fun z38 hz38 => ?_)
        refine h_iald (pc' := 360) (v := s0 0 (b3 + 1)) rfl rfl rfl hz38 (by omega) (by omega) rfl (fun z39 hz39 => ?_)
        have tz39 := h_rgv hz39
        clear hz38
        refine h_aload_n (pc' := 361) rfl rfl rfl ?_
        refine h_iload_n (pc' := 362) rfl rfl rfl ?_
        refine h_iconst (pc' := 363) (x := (Int32.ofInt 2)) rfl rfl rfl ?_
        refine h_iadd (pc' := 364) rfl rfl hy3 ci_2 rfl (by omega) (by omega) (fun z40 hz40 => ?_)
        refine h_iald (pc' := 365) (v := s0 0 (b3 + 2)) rfl rfl rfl hz40 (by omega) (by omega) rfl (fun z41 hz41 => ?_)
        have tz41 := h_rgv hz41
        clear hz40
        refine h_call (sp := false) (pc' := 368) (M := [(0, .ref 98), (1, .int z39), (2, .int z41)]) rfl rfl rfl rfl rfl rfl rfl rfl ?_
        refine h_aload_n (pc' := 1) rfl rfl rfl ?_
        refine h_iload_n (pc' := 2) rfl rfl rfl ?_
        refine h_call (sp := false) (pc' := 5) (M := [(0, .ref 98), (1, .int z39)]) rfl rfl rfl rfl rfl rfl rfl rfl ?_
        refine h_iload_n (pc' := 1) rfl rfl rfl ?_
        refine h_i2l (pc' := 2) rfl rfl hz39 (fun z42 hz42 => ?_)
        refine h_lconst (pc' := 3) (x := (Int64.ofInt 0)) rfl rfl rfl ?_
        refine h_aload_n (pc' := 4) rfl rfl rfl ?_
        refine h_getI (pc' := 7) (v := s0 98 2) rfl rfl rfl rfl rfl rfl (fun z43 hz43 => ?_)
        have tz43 := tf_98_2 I0
        refine h_iconst (pc' := 8) (x := (Int32.ofInt 1)) rfl rfl rfl ?_
        refine h_isub (pc' := 9) rfl rfl hz43 ci_1 rfl (by omega) (by omega) (fun z44 hz44 => ?_)
        clear hz43
        refine h_i2l (pc' := 10) rfl rfl hz44 (fun z45 hz45 => ?_)
        clear hz44
        refine h_calls (pc' := 13) (M := [(0, .long z42), (2, .long (Int64.ofInt 0)), (4, .long z45)]) rfl rfl rfl rfl rfl rfl ?_
        refine h_lload_n (pc' := 1) rfl rfl rfl ?_
        refine h_lload_n (pc' := 2) rfl rfl rfl ?_
        refine h_lcmp (pc' := 3) rfl rfl hz42 cl_0 (fun z46 hz46 => ?_)
        refine h_zlt (tg := 17) (pc' := 6) rfl rfl rfl rfl (fun c47 => absurd c47 (by omega)) (fun c47 => ?_)
        replace c47 := (h_lcr hz46).2.1 c47
        clear hz46
        refine h_lload_n (pc' := 7) rfl rfl rfl ?_
        refine h_lload (pc' := 9) rfl rfl rfl ?_
        refine h_lcmp (pc' := 10) rfl rfl hz42 hz45 (fun z48 hz48 => ?_)
        refine h_zgt (tg := 17) (pc' := 13) rfl rfl rfl rfl (fun c49 => absurd c49 (by omega)) (fun c49 => ?_)
        replace c49 := (h_lcr hz48).2.2.1 c49
        clear hz48
        refine h_iconst (pc' := 14) (x := (Int32.ofInt 1)) rfl rfl rfl ?_
        refine h_goto (pc' := 18) rfl rfl ?_
        refine h_zret rfl rfl ci_1 (by omega) (h_Kv ?_)
        clear hz42 hz45
        refine h_zret rfl rfl ci_1 (by omega) (h_Kv ?_)
        refine h_zne (tg := 10) (pc' := 8) rfl rfl rfl ci_1 (fun c50 => ?_) (fun c50 => absurd c50 (by omega))
        refine h_aload_n (pc' := 11) rfl rfl rfl ?_
        refine h_iconst (pc' := 12) (x := (Int32.ofInt 0)) rfl rfl rfl ?_
        refine h_call (sp := false) (pc' := 15) (M := [(0, .ref 98), (1, .int (Int32.ofInt 0))]) rfl rfl rfl rfl rfl rfl rfl rfl ?_
        refine n_lays _ I0  (fun s52 Is52 Gs52 ps52_0 => h_Kn ?_)
        have Zs52 : ∀ i, s52 0 i = s0 0 i := fun i => (Gs52 0 i rfl).trans rfl
        have Fs52 : h_F (fun _ _ => true) s52 s0 := fun _ _ h => by cases h
        have es52_0 : s52 64 1 = s0 64 1 := (Gs52 64 1 rfl).trans rfl
        have es52_1 : s52 98 11 = s0 98 11 := (Gs52 98 11 rfl).trans rfl
        have es52_2 : s52 64 4 = s0 64 4 := (Gs52 64 4 rfl).trans rfl
        have es52_3 : s52 98 16 = s0 98 16 := (Gs52 98 16 rfl).trans rfl
        have es52_4 : s52 10 9 = s0 10 9 := (Gs52 10 9 rfl).trans rfl
        have es52_5 : s52 98 2 = s0 98 2 := (Gs52 98 2 rfl).trans rfl
        refine h_iload_n (pc' := 16) rfl rfl rfl ?_
        refine h_tsw (dt := 96) (ts := [48, 58, 71, 81]) rfl rfl rfl rfl hz41 (fun c53 => ?_) ⟨fun c53 => ?_, fun c53 => ?_, fun c53 => ?_, fun c53 => ?_, trivial⟩
        · refine h_iconst (pc' := 97) (x := (Int32.ofInt (-1))) rfl rfl rfl ?_
          refine h_iret rfl rfl (h_Kv ?_)
          clear hz39 hz41
          refine h_ceq (tg := 1441) (pc' := 371) rfl rfl rfl ci_m1 ci_m1 (fun c54 => ?_) (fun c54 => absurd (Int.le_antisymm (by omega) (by omega)) c54)
          exact kk _ Is52 (by first | exact d_tape.le j0 (Int.le_antisymm (by omega) (by omega)) (by omega) (fun j => (Gs52 65 j rfl)) (fun j => (Gs52 102 j rfl)) | (exfalso; omega)) (Int.le_antisymm (by omega) (by omega)) (c_R.fr j2 I0 Gs52 rfl) (g_ti.e j3 (funext (fun j => Gs52 100 j rfl))) (g_SH.e j4 (funext (fun j => Gs52 94 j rfl)) (funext (fun j => Gs52 95 j rfl)) (funext (fun j => Gs52 96 j rfl)) (funext (fun j => Gs52 111 j rfl)) (funext (fun j => Gs52 112 j rfl)) (funext (fun j => Gs52 113 j rfl)))
        · refine h_aload_n (pc' := 49) rfl rfl rfl ?_
          refine h_getR (pc' := 52) rfl rfl rfl rfl rfl ?_
          refine h_bipush (pc' := 54) (x := (Int32.ofInt 26)) rfl rfl cb_26 ?_
          refine h_iload_n (pc' := 55) rfl rfl rfl ?_
          refine h_iadd (pc' := 56) rfl rfl ci_26 hz39 rfl (by have g0 := h_rgv hz39; omega) (by have g0 := h_rgv hz39; omega) (fun z55 hz55 => ?_)
          refine h_iald (pc' := 57) (v := s52 99 (26 + (s0 0 (b3 + 1)))) rfl rfl rfl hz55 (by omega) (by omega) rfl (fun z56 hz56 => ?_)
          have tz56 := ty_99_6 Is52 (26 + (s0 0 (b3 + 1))) (by omega)
          clear hz55
          refine h_iret rfl rfl (h_Kv ?_)
          clear hz39 hz41
          refine h_ceq (tg := 1441) (pc' := 371) rfl rfl rfl ci_m1 hz56 (fun c57 => absurd c57 (by omega)) (fun c57 => ?_)
          clear hz56
          refine h_iconst (pc' := 372) (x := (Int32.ofInt 0)) rfl rfl rfl ?_
          first | have gp := j2.rc (j := s0 0 (b3 + 1)) (by omega) (by omega) | skip
          first | have gq := j2.lw (j := s0 0 (b3 + 1)) (by omega) (by omega) | skip
          have g1 : s52 99 (26 + (s0 0 (b3 + 1))) = s0 99 (26 + (s0 0 (b3 + 1))) := congrFun (funext (fun j => Gs52 99 j rfl)) _
          have g2 : s52 99 (29 + (s0 0 (b3 + 1))) = s0 99 (29 + (s0 0 (b3 + 1))) := congrFun (funext (fun j => Gs52 99 j rfl)) _
          have g3 : s52 99 (32 + (s0 0 (b3 + 1))) = s0 99 (32 + (s0 0 (b3 + 1))) := congrFun (funext (fun j => Gs52 99 j rfl)) _
          exfalso
          omega
        · refine h_aload_n (pc' := 59) rfl rfl rfl ?_
          refine h_getR (pc' := 62) rfl rfl rfl rfl rfl ?_
          refine h_bipush (pc' := 64) (x := (Int32.ofInt 29)) rfl rfl cb_29 ?_
          refine h_iload_n (pc' := 65) rfl rfl rfl ?_
          refine h_iadd (pc' := 66) rfl rfl ci_29 hz39 rfl (by have g0 := h_rgv hz39; omega) (by have g0 := h_rgv hz39; omega) (fun z58 hz58 => ?_)
          refine h_iald (pc' := 67) (v := s52 99 (29 + (s0 0 (b3 + 1)))) rfl rfl rfl hz58 (by omega) (by omega) rfl (fun z59 hz59 => ?_)
          have tz59 := ty_99_7 Is52 (29 + (s0 0 (b3 + 1))) (by omega)
          clear hz58
          refine h_calls (pc' := 70) (M := [(0, .int z59)]) rfl rfl rfl rfl rfl rfl ?_
          refine h_iload_n (pc' := 1) rfl rfl rfl ?_
          refine h_zne (tg := 9) (pc' := 4) rfl rfl rfl hz59 (fun c60 => ?_) (fun c60 => ?_)
          · refine h_iload_n (pc' := 10) rfl rfl rfl ?_
            refine h_iconst (pc' := 11) (x := (Int32.ofInt 1)) rfl rfl rfl ?_
            refine h_isub (pc' := 12) rfl rfl hz59 ci_1 rfl (by omega) (by omega) (fun z61 hz61 => ?_)
            refine h_iret rfl rfl (h_Kv ?_)
            clear hz59
            refine h_iret rfl rfl (h_Kv ?_)
            clear hz39 hz41
            refine h_ceq (tg := 1441) (pc' := 371) rfl rfl rfl ci_m1 hz61 (fun c62 => absurd c62 (by omega)) (fun c62 => ?_)
            clear hz61
            refine h_iconst (pc' := 372) (x := (Int32.ofInt 0)) rfl rfl rfl ?_
            first | have gp := j2.rc (j := s0 0 (b3 + 1)) (by omega) (by omega) | skip
            first | have gq := j2.lw (j := s0 0 (b3 + 1)) (by omega) (by omega) | skip
            have g1 : s52 99 (26 + (s0 0 (b3 + 1))) = s0 99 (26 + (s0 0 (b3 + 1))) := congrFun (funext (fun j => Gs52 99 j rfl)) _
            have g2 : s52 99 (29 + (s0 0 (b3 + 1))) = s0 99 (29 + (s0 0 (b3 + 1))) := congrFun (funext (fun j => Gs52 99 j rfl)) _
            have g3 : s52 99 (32 + (s0 0 (b3 + 1))) = s0 99 (32 + (s0 0 (b3 + 1))) := congrFun (funext (fun j => Gs52 99 j rfl)) _
            exfalso
            omega
          · refine h_bipush (pc' := 6) (x := (Int32.ofInt (-4))) rfl rfl cb_m4 ?_
            refine h_goto (pc' := 12) rfl rfl ?_
            refine h_iret rfl rfl (h_Kv ?_)
            clear hz59
            refine h_iret rfl rfl (h_Kv ?_)
            clear hz39 hz41
            refine h_ceq (tg := 1441) (pc' := 371) rfl rfl rfl ci_m1 ci_m4 (fun c63 => absurd c63 (by omega)) (fun c63 => ?_)
            refine h_iconst (pc' := 372) (x := (Int32.ofInt 0)) rfl rfl rfl ?_
            first | have gp := j2.rc (j := s0 0 (b3 + 1)) (by omega) (by omega) | skip
            first | have gq := j2.lw (j := s0 0 (b3 + 1)) (by omega) (by omega) | skip
            have g1 : s52 99 (26 + (s0 0 (b3 + 1))) = s0 99 (26 + (s0 0 (b3 + 1))) := congrFun (funext (fun j => Gs52 99 j rfl)) _
            have g2 : s52 99 (29 + (s0 0 (b3 + 1))) = s0 99 (29 + (s0 0 (b3 + 1))) := congrFun (funext (fun j => Gs52 99 j rfl)) _
            have g3 : s52 99 (32 + (s0 0 (b3 + 1))) = s0 99 (32 + (s0 0 (b3 + 1))) := congrFun (funext (fun j => Gs52 99 j rfl)) _
            exfalso
            omega
        · refine h_aload_n (pc' := 72) rfl rfl rfl ?_
          refine h_getR (pc' := 75) rfl rfl rfl rfl rfl ?_
          refine h_bipush (pc' := 77) (x := (Int32.ofInt 32)) rfl rfl cb_32 ?_
          refine h_iload_n (pc' := 78) rfl rfl rfl ?_
          refine h_iadd (pc' := 79) rfl rfl ci_32 hz39 rfl (by have g0 := h_rgv hz39; omega) (by have g0 := h_rgv hz39; omega) (fun z64 hz64 => ?_)
          refine h_iald (pc' := 80) (v := s52 99 (32 + (s0 0 (b3 + 1)))) rfl rfl rfl hz64 (by omega) (by omega) rfl (fun z65 hz65 => ?_)
          have tz65 := ty_99_8 Is52 (32 + (s0 0 (b3 + 1))) (by omega)
          clear hz64
          refine h_iret rfl rfl (h_Kv ?_)
          clear hz39 hz41
          refine h_ceq (tg := 1441) (pc' := 371) rfl rfl rfl ci_m1 hz65 (fun c66 => absurd c66 (by omega)) (fun c66 => ?_)
          clear hz65
          refine h_iconst (pc' := 372) (x := (Int32.ofInt 0)) rfl rfl rfl ?_
          first | have gp := j2.rc (j := s0 0 (b3 + 1)) (by omega) (by omega) | skip
          first | have gq := j2.lw (j := s0 0 (b3 + 1)) (by omega) (by omega) | skip
          have g1 : s52 99 (26 + (s0 0 (b3 + 1))) = s0 99 (26 + (s0 0 (b3 + 1))) := congrFun (funext (fun j => Gs52 99 j rfl)) _
          have g2 : s52 99 (29 + (s0 0 (b3 + 1))) = s0 99 (29 + (s0 0 (b3 + 1))) := congrFun (funext (fun j => Gs52 99 j rfl)) _
          have g3 : s52 99 (32 + (s0 0 (b3 + 1))) = s0 99 (32 + (s0 0 (b3 + 1))) := congrFun (funext (fun j => Gs52 99 j rfl)) _
          exfalso
          omega
        · refine h_aload_n (pc' := 82) rfl rfl rfl ?_
          refine h_iload_n (pc' := 83) rfl rfl rfl ?_
          refine h_aload_n (pc' := 84) rfl rfl rfl ?_
          refine h_getR (pc' := 87) rfl rfl rfl rfl rfl ?_
          refine h_bipush (pc' := 89) (x := (Int32.ofInt 26)) rfl rfl cb_26 ?_
          refine h_iload_n (pc' := 90) rfl rfl rfl ?_
          refine h_iadd (pc' := 91) rfl rfl ci_26 hz39 rfl (by have g0 := h_rgv hz39; omega) (by have g0 := h_rgv hz39; omega) (fun z67 hz67 => ?_)
          refine h_iald (pc' := 92) (v := s52 99 (26 + (s0 0 (b3 + 1)))) rfl rfl rfl hz67 (by omega) (by omega) rfl (fun z68 hz68 => ?_)
          have tz68 := ty_99_6 Is52 (26 + (s0 0 (b3 + 1))) (by omega)
          clear hz67
          refine h_call (sp := false) (pc' := 95) (M := [(0, .ref 98), (1, .int z39), (2, .int z68)]) rfl rfl rfl rfl rfl rfl rfl rfl ?_
          refine n_lets _ Is52 z39 _ hz39 (by omega) z68 _ hz68 (fun r69 br69 hr69 ps70_0 => h_Kv ?_)
          have kr69 := hr69
          clear hz68
          refine h_iret rfl rfl (h_Kv ?_)
          clear hz39 hz41
          refine h_ceq (tg := 1441) (pc' := 371) rfl rfl rfl ci_m1 hr69 (fun c71 => ?_) (fun c71 => ?_)
          · exact kk _ Is52 (by first | exact d_tape.le j0 (Int.le_antisymm (by omega) (by omega)) (by omega) (fun j => (Gs52 65 j rfl)) (fun j => (Gs52 102 j rfl)) | (exfalso; omega)) (Int.le_antisymm (by omega) (by omega)) (c_R.fr j2 I0 Gs52 rfl) (g_ti.e j3 (funext (fun j => Gs52 100 j rfl))) (g_SH.e j4 (funext (fun j => Gs52 94 j rfl)) (funext (fun j => Gs52 95 j rfl)) (funext (fun j => Gs52 96 j rfl)) (funext (fun j => Gs52 111 j rfl)) (funext (fun j => Gs52 112 j rfl)) (funext (fun j => Gs52 113 j rfl)))
          · refine h_iconst (pc' := 372) (x := (Int32.ofInt 0)) rfl rfl rfl ?_
            first | have gp := j2.rc (j := s0 0 (b3 + 1)) (by omega) (by omega) | skip
            first | have gq := j2.lw (j := s0 0 (b3 + 1)) (by omega) (by omega) | skip
            have g1 : s52 99 (26 + (s0 0 (b3 + 1))) = s0 99 (26 + (s0 0 (b3 + 1))) := congrFun (funext (fun j => Gs52 99 j rfl)) _
            have g2 : s52 99 (29 + (s0 0 (b3 + 1))) = s0 99 (29 + (s0 0 (b3 + 1))) := congrFun (funext (fun j => Gs52 99 j rfl)) _
            have g3 : s52 99 (32 + (s0 0 (b3 + 1))) = s0 99 (32 + (s0 0 (b3 + 1))) := congrFun (funext (fun j => Gs52 99 j rfl)) _
            exfalso
            omega
      · refine h_aload_n (pc' := 45) rfl rfl rfl ?_
        refine h_getR (pc' := 48) rfl rfl rfl rfl rfl ?_
        refine h_getR (pc' := 51) rfl rfl rfl rfl rfl ?_
        refine h_iload_n (pc' := 52) rfl rfl rfl ?_
        refine h_iald (pc' := 53) (v := s0 19 (s0 0 (b3 + 1))) rfl rfl rfl hz2 (by omega) (by omega) rfl (fun z72 hz72 => ?_)
        have tz72 := ty_19 I0 (s0 0 (b3 + 1))
        refine h_iret rfl rfl (h_Kv ?_)
        clear hz2 hz4
        refine h_aload_n (pc' := 355) rfl rfl rfl ?_
        refine h_aload_n (pc' := 356) rfl rfl rfl ?_
        refine h_iload_n (pc' := 357) rfl rfl rfl ?_
        refine h_iconst (pc' := 358) (x := (Int32.ofInt 1)) rfl rfl rfl ?_
        refine h_iadd (pc' := 359) rfl rfl hy3 ci_1 rfl (by omega) (by omega) (fun z73 hz73 => ?_)
        refine h_iald (pc' := 360) (v := s0 0 (b3 + 1)) rfl rfl rfl hz73 (by omega) (by omega) rfl (fun z74 hz74 => ?_)
        have tz74 := h_rgv hz74
        clear hz73
        refine h_aload_n (pc' := 361) rfl rfl rfl ?_
        refine h_iload_n (pc' := 362) rfl rfl rfl ?_
        refine h_iconst (pc' := 363) (x := (Int32.ofInt 2)) rfl rfl rfl ?_
        refine h_iadd (pc' := 364) rfl rfl hy3 ci_2 rfl (by omega) (by omega) (fun z75 hz75 => ?_)
        refine h_iald (pc' := 365) (v := s0 0 (b3 + 2)) rfl rfl rfl hz75 (by omega) (by omega) rfl (fun z76 hz76 => ?_)
        have tz76 := h_rgv hz76
        clear hz75
        refine h_call (sp := false) (pc' := 368) (M := [(0, .ref 98), (1, .int z74), (2, .int z76)]) rfl rfl rfl rfl rfl rfl rfl rfl ?_
        refine h_aload_n (pc' := 1) rfl rfl rfl ?_
        refine h_iload_n (pc' := 2) rfl rfl rfl ?_
        refine h_call (sp := false) (pc' := 5) (M := [(0, .ref 98), (1, .int z74)]) rfl rfl rfl rfl rfl rfl rfl rfl ?_
        refine h_iload_n (pc' := 1) rfl rfl rfl ?_
        refine h_i2l (pc' := 2) rfl rfl hz74 (fun z77 hz77 => ?_)
        refine h_lconst (pc' := 3) (x := (Int64.ofInt 0)) rfl rfl rfl ?_
        refine h_aload_n (pc' := 4) rfl rfl rfl ?_
        refine h_getI (pc' := 7) (v := s0 98 2) rfl rfl rfl rfl rfl rfl (fun z78 hz78 => ?_)
        have tz78 := tf_98_2 I0
        refine h_iconst (pc' := 8) (x := (Int32.ofInt 1)) rfl rfl rfl ?_
        refine h_isub (pc' := 9) rfl rfl hz78 ci_1 rfl (by omega) (by omega) (fun z79 hz79 => ?_)
        clear hz78
        refine h_i2l (pc' := 10) rfl rfl hz79 (fun z80 hz80 => ?_)
        clear hz79
        refine h_calls (pc' := 13) (M := [(0, .long z77), (2, .long (Int64.ofInt 0)), (4, .long z80)]) rfl rfl rfl rfl rfl rfl ?_
        refine h_lload_n (pc' := 1) rfl rfl rfl ?_
        refine h_lload_n (pc' := 2) rfl rfl rfl ?_
        refine h_lcmp (pc' := 3) rfl rfl hz77 cl_0 (fun z81 hz81 => ?_)
        refine h_zlt (tg := 17) (pc' := 6) rfl rfl rfl rfl (fun c82 => absurd c82 (by omega)) (fun c82 => ?_)
        replace c82 := (h_lcr hz81).2.1 c82
        clear hz81
        refine h_lload_n (pc' := 7) rfl rfl rfl ?_
        refine h_lload (pc' := 9) rfl rfl rfl ?_
        refine h_lcmp (pc' := 10) rfl rfl hz77 hz80 (fun z83 hz83 => ?_)
        refine h_zgt (tg := 17) (pc' := 13) rfl rfl rfl rfl (fun c84 => absurd c84 (by omega)) (fun c84 => ?_)
        replace c84 := (h_lcr hz83).2.2.1 c84
        clear hz83
        refine h_iconst (pc' := 14) (x := (Int32.ofInt 1)) rfl rfl rfl ?_
        refine h_goto (pc' := 18) rfl rfl ?_
        refine h_zret rfl rfl ci_1 (by omega) (h_Kv ?_)
        clear hz77 hz80
        refine h_zret rfl rfl ci_1 (by omega) (h_Kv ?_)
        refine h_zne (tg := 10) (pc' := 8) rfl rfl rfl ci_1 (fun c85 => ?_) (fun c85 => absurd c85 (by omega))
        refine h_aload_n (pc' := 11) rfl rfl rfl ?_
        refine h_iconst (pc' := 12) (x := (Int32.ofInt 0)) rfl rfl rfl ?_
        refine h_call (sp := false) (pc' := 15) (M := [(0, .ref 98), (1, .int (Int32.ofInt 0))]) rfl rfl rfl rfl rfl rfl rfl rfl ?_
        refine n_lays _ I0  (fun s87 Is87 Gs87 ps87_0 => h_Kn ?_)
        have Zs87 : ∀ i, s87 0 i = s0 0 i := fun i => (Gs87 0 i rfl).trans rfl
        have Fs87 : h_F (fun _ _ => true) s87 s0 := fun _ _ h => by cases h
        have es87_0 : s87 64 1 = s0 64 1 := (Gs87 64 1 rfl).trans rfl
        have es87_1 : s87 98 11 = s0 98 11 := (Gs87 98 11 rfl).trans rfl
        have es87_2 : s87 64 4 = s0 64 4 := (Gs87 64 4 rfl).trans rfl
        have es87_3 : s87 98 16 = s0 98 16 := (Gs87 98 16 rfl).trans rfl
        have es87_4 : s87 10 9 = s0 10 9 := (Gs87 10 9 rfl).trans rfl
        have es87_5 : s87 98 2 = s0 98 2 := (Gs87 98 2 rfl).trans rfl
        refine h_iload_n (pc' := 16) rfl rfl rfl ?_
        refine h_tsw (dt := 96) (ts := [48, 58, 71, 81]) rfl rfl rfl rfl hz76 (fun c88 => absurd c88 (by omega)) ⟨fun c88 => ?_, fun c88 => absurd c88 (by omega), fun c88 => absurd c88 (by omega), fun c88 => absurd c88 (by omega), trivial⟩
        refine h_aload_n (pc' := 49) rfl rfl rfl ?_
        refine h_getR (pc' := 52) rfl rfl rfl rfl rfl ?_
        refine h_bipush (pc' := 54) (x := (Int32.ofInt 26)) rfl rfl cb_26 ?_
        refine h_iload_n (pc' := 55) rfl rfl rfl ?_
        refine h_iadd (pc' := 56) rfl rfl ci_26 hz74 rfl (by have g0 := h_rgv hz74; omega) (by have g0 := h_rgv hz74; omega) (fun z89 hz89 => ?_)
        refine h_iald (pc' := 57) (v := s87 99 (26 + (s0 0 (b3 + 1)))) rfl rfl rfl hz89 (by omega) (by omega) rfl (fun z90 hz90 => ?_)
        have tz90 := ty_99_6 Is87 (26 + (s0 0 (b3 + 1))) (by omega)
        clear hz89
        refine h_iret rfl rfl (h_Kv ?_)
        clear hz74 hz76
        refine h_ceq (tg := 1441) (pc' := 371) rfl rfl rfl hz72 hz90 (fun c91 => ?_) (fun c91 => ?_)
        · clear hz72 hz90
          exact kk _ Is87 (by first | exact d_tape.le j0 (Int.le_antisymm (by omega) (by omega)) (by omega) (fun j => (Gs87 65 j rfl)) (fun j => (Gs87 102 j rfl)) | (exfalso; omega)) (Int.le_antisymm (by omega) (by omega)) (c_R.fr j2 I0 Gs87 rfl) (g_ti.e j3 (funext (fun j => Gs87 100 j rfl))) (g_SH.e j4 (funext (fun j => Gs87 94 j rfl)) (funext (fun j => Gs87 95 j rfl)) (funext (fun j => Gs87 96 j rfl)) (funext (fun j => Gs87 111 j rfl)) (funext (fun j => Gs87 112 j rfl)) (funext (fun j => Gs87 113 j rfl)))
        · clear hz72 hz90
          refine h_iconst (pc' := 372) (x := (Int32.ofInt 0)) rfl rfl rfl ?_
          first | have gp := j2.rc (j := s0 0 (b3 + 1)) (by omega) (by omega) | skip
          first | have gq := j2.lw (j := s0 0 (b3 + 1)) (by omega) (by omega) | skip
          have g1 : s87 99 (26 + (s0 0 (b3 + 1))) = s0 99 (26 + (s0 0 (b3 + 1))) := congrFun (funext (fun j => Gs87 99 j rfl)) _
          have g2 : s87 99 (29 + (s0 0 (b3 + 1))) = s0 99 (29 + (s0 0 (b3 + 1))) := congrFun (funext (fun j => Gs87 99 j rfl)) _
          have g3 : s87 99 (32 + (s0 0 (b3 + 1))) = s0 99 (32 + (s0 0 (b3 + 1))) := congrFun (funext (fun j => Gs87 99 j rfl)) _
          exfalso
          omega
      · refine h_aload_n (pc' := 55) rfl rfl rfl ?_
        refine h_getR (pc' := 58) rfl rfl rfl rfl rfl ?_
        refine h_getR (pc' := 61) rfl rfl rfl rfl rfl ?_
        refine h_iload_n (pc' := 62) rfl rfl rfl ?_
        refine h_iald (pc' := 63) (v := s0 20 (s0 0 (b3 + 1))) rfl rfl rfl hz2 (by omega) (by omega) rfl (fun z92 hz92 => ?_)
        have tz92 := ty_20 I0 (s0 0 (b3 + 1))
        refine h_iret rfl rfl (h_Kv ?_)
        clear hz2 hz4
        refine h_aload_n (pc' := 355) rfl rfl rfl ?_
        refine h_aload_n (pc' := 356) rfl rfl rfl ?_
        refine h_iload_n (pc' := 357) rfl rfl rfl ?_
        refine h_iconst (pc' := 358) (x := (Int32.ofInt 1)) rfl rfl rfl ?_
        refine h_iadd (pc' := 359) rfl rfl hy3 ci_1 rfl (by omega) (by omega) (fun z93 hz93 => ?_)
        refine h_iald (pc' := 360) (v := s0 0 (b3 + 1)) rfl rfl rfl hz93 (by omega) (by omega) rfl (fun z94 hz94 => ?_)
        have tz94 := h_rgv hz94
        clear hz93
        refine h_aload_n (pc' := 361) rfl rfl rfl ?_
        refine h_iload_n (pc' := 362) rfl rfl rfl ?_
        refine h_iconst (pc' := 363) (x := (Int32.ofInt 2)) rfl rfl rfl ?_
        refine h_iadd (pc' := 364) rfl rfl hy3 ci_2 rfl (by omega) (by omega) (fun z95 hz95 => ?_)
        refine h_iald (pc' := 365) (v := s0 0 (b3 + 2)) rfl rfl rfl hz95 (by omega) (by omega) rfl (fun z96 hz96 => ?_)
        have tz96 := h_rgv hz96
        clear hz95
        refine h_call (sp := false) (pc' := 368) (M := [(0, .ref 98), (1, .int z94), (2, .int z96)]) rfl rfl rfl rfl rfl rfl rfl rfl ?_
        refine h_aload_n (pc' := 1) rfl rfl rfl ?_
        refine h_iload_n (pc' := 2) rfl rfl rfl ?_
        refine h_call (sp := false) (pc' := 5) (M := [(0, .ref 98), (1, .int z94)]) rfl rfl rfl rfl rfl rfl rfl rfl ?_
        refine h_iload_n (pc' := 1) rfl rfl rfl ?_
        refine h_i2l (pc' := 2) rfl rfl hz94 (fun z97 hz97 => ?_)
        refine h_lconst (pc' := 3) (x := (Int64.ofInt 0)) rfl rfl rfl ?_
        refine h_aload_n (pc' := 4) rfl rfl rfl ?_
        refine h_getI (pc' := 7) (v := s0 98 2) rfl rfl rfl rfl rfl rfl (fun z98 hz98 => ?_)
        have tz98 := tf_98_2 I0
        refine h_iconst (pc' := 8) (x := (Int32.ofInt 1)) rfl rfl rfl ?_
        refine h_isub (pc' := 9) rfl rfl hz98 ci_1 rfl (by omega) (by omega) (fun z99 hz99 => ?_)
        clear hz98
        refine h_i2l (pc' := 10) rfl rfl hz99 (fun z100 hz100 => ?_)
        clear hz99
        refine h_calls (pc' := 13) (M := [(0, .long z97), (2, .long (Int64.ofInt 0)), (4, .long z100)]) rfl rfl rfl rfl rfl rfl ?_
        refine h_lload_n (pc' := 1) rfl rfl rfl ?_
        refine h_lload_n (pc' := 2) rfl rfl rfl ?_
        refine h_lcmp (pc' := 3) rfl rfl hz97 cl_0 (fun z101 hz101 => ?_)
        refine h_zlt (tg := 17) (pc' := 6) rfl rfl rfl rfl (fun c102 => absurd c102 (by omega)) (fun c102 => ?_)
        replace c102 := (h_lcr hz101).2.1 c102
        clear hz101
        refine h_lload_n (pc' := 7) rfl rfl rfl ?_
        refine h_lload (pc' := 9) rfl rfl rfl ?_
        refine h_lcmp (pc' := 10) rfl rfl hz97 hz100 (fun z103 hz103 => ?_)
        refine h_zgt (tg := 17) (pc' := 13) rfl rfl rfl rfl (fun c104 => absurd c104 (by omega)) (fun c104 => ?_)
        replace c104 := (h_lcr hz103).2.2.1 c104
        clear hz103
        refine h_iconst (pc' := 14) (x := (Int32.ofInt 1)) rfl rfl rfl ?_
        refine h_goto (pc' := 18) rfl rfl ?_
        refine h_zret rfl rfl ci_1 (by omega) (h_Kv ?_)
        clear hz100 hz97
        refine h_zret rfl rfl ci_1 (by omega) (h_Kv ?_)
        refine h_zne (tg := 10) (pc' := 8) rfl rfl rfl ci_1 (fun c105 => ?_) (fun c105 => absurd c105 (by omega))
        refine h_aload_n (pc' := 11) rfl rfl rfl ?_
        refine h_iconst (pc' := 12) (x := (Int32.ofInt 0)) rfl rfl rfl ?_
        refine h_call (sp := false) (pc' := 15) (M := [(0, .ref 98), (1, .int (Int32.ofInt 0))]) rfl rfl rfl rfl rfl rfl rfl rfl ?_
        refine n_lays _ I0  (fun s107 Is107 Gs107 ps107_0 => h_Kn ?_)
        have Zs107 : ∀ i, s107 0 i = s0 0 i := fun i => (Gs107 0 i rfl).trans rfl
        have Fs107 : h_F (fun _ _ => true) s107 s0 := fun _ _ h => by cases h
        have es107_0 : s107 64 1 = s0 64 1 := (Gs107 64 1 rfl).trans rfl
        have es107_1 : s107 98 11 = s0 98 11 := (Gs107 98 11 rfl).trans rfl
        have es107_2 : s107 64 4 = s0 64 4 := (Gs107 64 4 rfl).trans rfl
        have es107_3 : s107 98 16 = s0 98 16 := (Gs107 98 16 rfl).trans rfl
        have es107_4 : s107 10 9 = s0 10 9 := (Gs107 10 9 rfl).trans rfl
        have es107_5 : s107 98 2 = s0 98 2 := (Gs107 98 2 rfl).trans rfl
        refine h_iload_n (pc' := 16) rfl rfl rfl ?_
        refine h_tsw (dt := 96) (ts := [48, 58, 71, 81]) rfl rfl rfl rfl hz96 (fun c108 => absurd c108 (by omega)) ⟨fun c108 => absurd c108 (by omega), fun c108 => ?_, fun c108 => absurd c108 (by omega), fun c108 => absurd c108 (by omega), trivial⟩
        refine h_aload_n (pc' := 59) rfl rfl rfl ?_
        refine h_getR (pc' := 62) rfl rfl rfl rfl rfl ?_
        refine h_bipush (pc' := 64) (x := (Int32.ofInt 29)) rfl rfl cb_29 ?_
        refine h_iload_n (pc' := 65) rfl rfl rfl ?_
        refine h_iadd (pc' := 66) rfl rfl ci_29 hz94 rfl (by have g0 := h_rgv hz94; omega) (by have g0 := h_rgv hz94; omega) (fun z109 hz109 => ?_)
        refine h_iald (pc' := 67) (v := s107 99 (29 + (s0 0 (b3 + 1)))) rfl rfl rfl hz109 (by omega) (by omega) rfl (fun z110 hz110 => ?_)
        have tz110 := ty_99_7 Is107 (29 + (s0 0 (b3 + 1))) (by omega)
        clear hz109
        refine h_calls (pc' := 70) (M := [(0, .int z110)]) rfl rfl rfl rfl rfl rfl ?_
        refine h_iload_n (pc' := 1) rfl rfl rfl ?_
        refine h_zne (tg := 9) (pc' := 4) rfl rfl rfl hz110 (fun c111 => ?_) (fun c111 => ?_)
        · refine h_iload_n (pc' := 10) rfl rfl rfl ?_
          refine h_iconst (pc' := 11) (x := (Int32.ofInt 1)) rfl rfl rfl ?_
          refine h_isub (pc' := 12) rfl rfl hz110 ci_1 rfl (by omega) (by omega) (fun z112 hz112 => ?_)
          refine h_iret rfl rfl (h_Kv ?_)
          clear hz110
          refine h_iret rfl rfl (h_Kv ?_)
          clear hz94 hz96
          refine h_ceq (tg := 1441) (pc' := 371) rfl rfl rfl hz92 hz112 (fun c113 => ?_) (fun c113 => ?_)
          · clear hz112 hz92
            exact kk _ Is107 (by first | exact d_tape.le j0 (Int.le_antisymm (by omega) (by omega)) (by omega) (fun j => (Gs107 65 j rfl)) (fun j => (Gs107 102 j rfl)) | (exfalso; omega)) (Int.le_antisymm (by omega) (by omega)) (c_R.fr j2 I0 Gs107 rfl) (g_ti.e j3 (funext (fun j => Gs107 100 j rfl))) (g_SH.e j4 (funext (fun j => Gs107 94 j rfl)) (funext (fun j => Gs107 95 j rfl)) (funext (fun j => Gs107 96 j rfl)) (funext (fun j => Gs107 111 j rfl)) (funext (fun j => Gs107 112 j rfl)) (funext (fun j => Gs107 113 j rfl)))
          · clear hz112 hz92
            refine h_iconst (pc' := 372) (x := (Int32.ofInt 0)) rfl rfl rfl ?_
            first | have gp := j2.rc (j := s0 0 (b3 + 1)) (by omega) (by omega) | skip
            first | have gq := j2.lw (j := s0 0 (b3 + 1)) (by omega) (by omega) | skip
            have g1 : s107 99 (26 + (s0 0 (b3 + 1))) = s0 99 (26 + (s0 0 (b3 + 1))) := congrFun (funext (fun j => Gs107 99 j rfl)) _
            have g2 : s107 99 (29 + (s0 0 (b3 + 1))) = s0 99 (29 + (s0 0 (b3 + 1))) := congrFun (funext (fun j => Gs107 99 j rfl)) _
            have g3 : s107 99 (32 + (s0 0 (b3 + 1))) = s0 99 (32 + (s0 0 (b3 + 1))) := congrFun (funext (fun j => Gs107 99 j rfl)) _
            exfalso
            omega
        · refine h_bipush (pc' := 6) (x := (Int32.ofInt (-4))) rfl rfl cb_m4 ?_
          refine h_goto (pc' := 12) rfl rfl ?_
          refine h_iret rfl rfl (h_Kv ?_)
          clear hz110
          refine h_iret rfl rfl (h_Kv ?_)
          clear hz94 hz96
          refine h_ceq (tg := 1441) (pc' := 371) rfl rfl rfl hz92 ci_m4 (fun c114 => ?_) (fun c114 => ?_)
          · clear hz92
            exact kk _ Is107 (by first | exact d_tape.le j0 (Int.le_antisymm (by omega) (by omega)) (by omega) (fun j => (Gs107 65 j rfl)) (fun j => (Gs107 102 j rfl)) | (exfalso; omega)) (Int.le_antisymm (by omega) (by omega)) (c_R.fr j2 I0 Gs107 rfl) (g_ti.e j3 (funext (fun j => Gs107 100 j rfl))) (g_SH.e j4 (funext (fun j => Gs107 94 j rfl)) (funext (fun j => Gs107 95 j rfl)) (funext (fun j => Gs107 96 j rfl)) (funext (fun j => Gs107 111 j rfl)) (funext (fun j => Gs107 112 j rfl)) (funext (fun j => Gs107 113 j rfl)))
          · clear hz92
            refine h_iconst (pc' := 372) (x := (Int32.ofInt 0)) rfl rfl rfl ?_
            first | have gp := j2.rc (j := s0 0 (b3 + 1)) (by omega) (by omega) | skip
            first | have gq := j2.lw (j := s0 0 (b3 + 1)) (by omega) (by omega) | skip
            have g1 : s107 99 (26 + (s0 0 (b3 + 1))) = s0 99 (26 + (s0 0 (b3 + 1))) := congrFun (funext (fun j => Gs107 99 j rfl)) _
            have g2 : s107 99 (29 + (s0 0 (b3 + 1))) = s0 99 (29 + (s0 0 (b3 + 1))) := congrFun (funext (fun j => Gs107 99 j rfl)) _
            have g3 : s107 99 (32 + (s0 0 (b3 + 1))) = s0 99 (32 + (s0 0 (b3 + 1))) := congrFun (funext (fun j => Gs107 99 j rfl)) _
            exfalso
            omega
      · refine h_aload_n (pc' := 65) rfl rfl rfl ?_
        refine h_getR (pc' := 68) rfl rfl rfl rfl rfl ?_
        refine h_getR (pc' := 71) rfl rfl rfl rfl rfl ?_
        refine h_iload_n (pc' := 72) rfl rfl rfl ?_
        refine h_iald (pc' := 73) (v := s0 21 (s0 0 (b3 + 1))) rfl rfl rfl hz2 (by omega) (by omega) rfl (fun z115 hz115 => ?_)
        have tz115 := ty_21 I0 (s0 0 (b3 + 1))
        refine h_iret rfl rfl (h_Kv ?_)
        clear hz2 hz4
        refine h_aload_n (pc' := 355) rfl rfl rfl ?_
        refine h_aload_n (pc' := 356) rfl rfl rfl ?_
        refine h_iload_n (pc' := 357) rfl rfl rfl ?_
        refine h_iconst (pc' := 358) (x := (Int32.ofInt 1)) rfl rfl rfl ?_
        refine h_iadd (pc' := 359) rfl rfl hy3 ci_1 rfl (by omega) (by omega) (fun z116 hz116 => ?_)
        refine h_iald (pc' := 360) (v := s0 0 (b3 + 1)) rfl rfl rfl hz116 (by omega) (by omega) rfl (fun z117 hz117 => ?_)
        have tz117 := h_rgv hz117
        clear hz116
        refine h_aload_n (pc' := 361) rfl rfl rfl ?_
        refine h_iload_n (pc' := 362) rfl rfl rfl ?_
        refine h_iconst (pc' := 363) (x := (Int32.ofInt 2)) rfl rfl rfl ?_
        refine h_iadd (pc' := 364) rfl rfl hy3 ci_2 rfl (by omega) (by omega) (fun z118 hz118 => ?_)
        refine h_iald (pc' := 365) (v := s0 0 (b3 + 2)) rfl rfl rfl hz118 (by omega) (by omega) rfl (fun z119 hz119 => ?_)
        have tz119 := h_rgv hz119
        clear hz118
        refine h_call (sp := false) (pc' := 368) (M := [(0, .ref 98), (1, .int z117), (2, .int z119)]) rfl rfl rfl rfl rfl rfl rfl rfl ?_
        refine h_aload_n (pc' := 1) rfl rfl rfl ?_
        refine h_iload_n (pc' := 2) rfl rfl rfl ?_
        refine h_call (sp := false) (pc' := 5) (M := [(0, .ref 98), (1, .int z117)]) rfl rfl rfl rfl rfl rfl rfl rfl ?_
        refine h_iload_n (pc' := 1) rfl rfl rfl ?_
        refine h_i2l (pc' := 2) rfl rfl hz117 (fun z120 hz120 => ?_)
        refine h_lconst (pc' := 3) (x := (Int64.ofInt 0)) rfl rfl rfl ?_
        refine h_aload_n (pc' := 4) rfl rfl rfl ?_
        refine h_getI (pc' := 7) (v := s0 98 2) rfl rfl rfl rfl rfl rfl (fun z121 hz121 => ?_)
        have tz121 := tf_98_2 I0
        refine h_iconst (pc' := 8) (x := (Int32.ofInt 1)) rfl rfl rfl ?_
        refine h_isub (pc' := 9) rfl rfl hz121 ci_1 rfl (by omega) (by omega) (fun z122 hz122 => ?_)
        clear hz121
        refine h_i2l (pc' := 10) rfl rfl hz122 (fun z123 hz123 => ?_)
        clear hz122
        refine h_calls (pc' := 13) (M := [(0, .long z120), (2, .long (Int64.ofInt 0)), (4, .long z123)]) rfl rfl rfl rfl rfl rfl ?_
        refine h_lload_n (pc' := 1) rfl rfl rfl ?_
        refine h_lload_n (pc' := 2) rfl rfl rfl ?_
        refine h_lcmp (pc' := 3) rfl rfl hz120 cl_0 (fun z124 hz124 => ?_)
        refine h_zlt (tg := 17) (pc' := 6) rfl rfl rfl rfl (fun c125 => absurd c125 (by omega)) (fun c125 => ?_)
        replace c125 := (h_lcr hz124).2.1 c125
        clear hz124
        refine h_lload_n (pc' := 7) rfl rfl rfl ?_
        refine h_lload (pc' := 9) rfl rfl rfl ?_
        refine h_lcmp (pc' := 10) rfl rfl hz120 hz123 (fun z126 hz126 => ?_)
        refine h_zgt (tg := 17) (pc' := 13) rfl rfl rfl rfl (fun c127 => absurd c127 (by omega)) (fun c127 => ?_)
        replace c127 := (h_lcr hz126).2.2.1 c127
        clear hz126
        refine h_iconst (pc' := 14) (x := (Int32.ofInt 1)) rfl rfl rfl ?_
        refine h_goto (pc' := 18) rfl rfl ?_
        refine h_zret rfl rfl ci_1 (by omega) (h_Kv ?_)
        clear hz120 hz123
        refine h_zret rfl rfl ci_1 (by omega) (h_Kv ?_)
        refine h_zne (tg := 10) (pc' := 8) rfl rfl rfl ci_1 (fun c128 => ?_) (fun c128 => absurd c128 (by omega))
        refine h_aload_n (pc' := 11) rfl rfl rfl ?_
        refine h_iconst (pc' := 12) (x := (Int32.ofInt 0)) rfl rfl rfl ?_
        refine h_call (sp := false) (pc' := 15) (M := [(0, .ref 98), (1, .int (Int32.ofInt 0))]) rfl rfl rfl rfl rfl rfl rfl rfl ?_
        refine n_lays _ I0  (fun s130 Is130 Gs130 ps130_0 => h_Kn ?_)
        have Zs130 : ∀ i, s130 0 i = s0 0 i := fun i => (Gs130 0 i rfl).trans rfl
        have Fs130 : h_F (fun _ _ => true) s130 s0 := fun _ _ h => by cases h
        have es130_0 : s130 64 1 = s0 64 1 := (Gs130 64 1 rfl).trans rfl
        have es130_1 : s130 98 11 = s0 98 11 := (Gs130 98 11 rfl).trans rfl
        have es130_2 : s130 64 4 = s0 64 4 := (Gs130 64 4 rfl).trans rfl
        have es130_3 : s130 98 16 = s0 98 16 := (Gs130 98 16 rfl).trans rfl
        have es130_4 : s130 10 9 = s0 10 9 := (Gs130 10 9 rfl).trans rfl
        have es130_5 : s130 98 2 = s0 98 2 := (Gs130 98 2 rfl).trans rfl
        refine h_iload_n (pc' := 16) rfl rfl rfl ?_
        refine h_tsw (dt := 96) (ts := [48, 58, 71, 81]) rfl rfl rfl rfl hz119 (fun c131 => absurd c131 (by omega)) ⟨fun c131 => absurd c131 (by omega), fun c131 => absurd c131 (by omega), fun c131 => ?_, fun c131 => absurd c131 (by omega), trivial⟩
        refine h_aload_n (pc' := 72) rfl rfl rfl ?_
        refine h_getR (pc' := 75) rfl rfl rfl rfl rfl ?_
        refine h_bipush (pc' := 77) (x := (Int32.ofInt 32)) rfl rfl cb_32 ?_
        refine h_iload_n (pc' := 78) rfl rfl rfl ?_
        refine h_iadd (pc' := 79) rfl rfl ci_32 hz117 rfl (by have g0 := h_rgv hz117; omega) (by have g0 := h_rgv hz117; omega) (fun z132 hz132 => ?_)
        refine h_iald (pc' := 80) (v := s130 99 (32 + (s0 0 (b3 + 1)))) rfl rfl rfl hz132 (by omega) (by omega) rfl (fun z133 hz133 => ?_)
        have tz133 := ty_99_8 Is130 (32 + (s0 0 (b3 + 1))) (by omega)
        clear hz132
        refine h_iret rfl rfl (h_Kv ?_)
        clear hz117 hz119
        refine h_ceq (tg := 1441) (pc' := 371) rfl rfl rfl hz115 hz133 (fun c134 => ?_) (fun c134 => ?_)
        · clear hz115 hz133
          exact kk _ Is130 (by first | exact d_tape.le j0 (Int.le_antisymm (by omega) (by omega)) (by omega) (fun j => (Gs130 65 j rfl)) (fun j => (Gs130 102 j rfl)) | (exfalso; omega)) (Int.le_antisymm (by omega) (by omega)) (c_R.fr j2 I0 Gs130 rfl) (g_ti.e j3 (funext (fun j => Gs130 100 j rfl))) (g_SH.e j4 (funext (fun j => Gs130 94 j rfl)) (funext (fun j => Gs130 95 j rfl)) (funext (fun j => Gs130 96 j rfl)) (funext (fun j => Gs130 111 j rfl)) (funext (fun j => Gs130 112 j rfl)) (funext (fun j => Gs130 113 j rfl)))
        · clear hz115 hz133
          refine h_iconst (pc' := 372) (x := (Int32.ofInt 0)) rfl rfl rfl ?_
          first | have gp := j2.rc (j := s0 0 (b3 + 1)) (by omega) (by omega) | skip
          first | have gq := j2.lw (j := s0 0 (b3 + 1)) (by omega) (by omega) | skip
          have g1 : s130 99 (26 + (s0 0 (b3 + 1))) = s0 99 (26 + (s0 0 (b3 + 1))) := congrFun (funext (fun j => Gs130 99 j rfl)) _
          have g2 : s130 99 (29 + (s0 0 (b3 + 1))) = s0 99 (29 + (s0 0 (b3 + 1))) := congrFun (funext (fun j => Gs130 99 j rfl)) _
          have g3 : s130 99 (32 + (s0 0 (b3 + 1))) = s0 99 (32 + (s0 0 (b3 + 1))) := congrFun (funext (fun j => Gs130 99 j rfl)) _
          exfalso
          omega
      · refine h_aload_n (pc' := 75) rfl rfl rfl ?_
        refine h_getR (pc' := 78) rfl rfl rfl rfl rfl ?_
        refine h_aload_n (pc' := 79) rfl rfl rfl ?_
        refine h_getR (pc' := 82) rfl rfl rfl rfl rfl ?_
        refine h_call (sp := false) (pc' := 85) (M := [(0, .ref 79), (1, .ref 10)]) rfl rfl rfl rfl rfl rfl rfl rfl ?_
        refine n_measure_10 _ I0  (fun s136 Is136 Gs136 ps136_0 ps136_1 ps136_2 => h_Kn ?_)
        have Zs136 : ∀ i, s136 0 i = s0 0 i := fun i => (Gs136 0 i rfl).trans rfl
        have Fs136 : h_F (fun _ _ => true) s136 s0 := fun _ _ h => by cases h
        have es136_0 : s136 64 1 = s0 64 1 := (Gs136 64 1 rfl).trans rfl
        have es136_1 : s136 98 11 = s0 98 11 := (Gs136 98 11 rfl).trans rfl
        have es136_2 : s136 64 4 = s0 64 4 := (Gs136 64 4 rfl).trans rfl
        have es136_3 : s136 98 16 = s0 98 16 := (Gs136 98 16 rfl).trans rfl
        have es136_4 : s136 10 9 = s0 10 9 := (Gs136 10 9 rfl).trans rfl
        have es136_5 : s136 98 2 = s0 98 2 := (Gs136 98 2 rfl).trans rfl
        refine h_aload_n (pc' := 86) rfl rfl rfl ?_
        refine h_getR (pc' := 89) rfl rfl rfl rfl rfl ?_
        refine h_aload_n (pc' := 90) rfl rfl rfl ?_
        refine h_getR (pc' := 93) rfl rfl rfl rfl rfl ?_
        refine h_getR (pc' := 96) rfl rfl rfl rfl rfl ?_
        refine h_iload_n (pc' := 97) rfl rfl rfl ?_
        refine h_iald (pc' := 98) (v := s136 20 (s0 0 (b3 + 1))) rfl rfl rfl hz2 (by omega) (by omega) rfl (fun z137 hz137 => ?_)
        have tz137 := ty_20 Is136 (s0 0 (b3 + 1))
        refine h_aload_n (pc' := 99) rfl rfl rfl ?_
        refine h_getR (pc' := 102) rfl rfl rfl rfl rfl ?_
        refine h_getR (pc' := 105) rfl rfl rfl rfl rfl ?_
        refine h_iload_n (pc' := 106) rfl rfl rfl ?_
        refine h_iald (pc' := 107) (v := s136 19 (s0 0 (b3 + 1))) rfl rfl rfl hz2 (by omega) (by omega) rfl (fun z138 hz138 => ?_)
        have tz138 := ty_19 Is136 (s0 0 (b3 + 1))
        refine h_call (sp := false) (pc' := 110) (M := [(0, .ref 79), (1, .int z137), (2, .int z138)]) rfl rfl rfl rfl rfl rfl rfl rfl ?_
        refine n_let _ Is136 z137 _ hz137 z138 _ hz138 (fun r139 br139 hr139 ps140_0 => h_Kv ?_)
        have kr139 := hr139
        clear hz137 hz138
        refine h_iret rfl rfl (h_Kv ?_)
        clear hz2 hz4
        refine h_aload_n (pc' := 355) rfl rfl rfl ?_
        refine h_aload_n (pc' := 356) rfl rfl rfl ?_
        refine h_iload_n (pc' := 357) rfl rfl rfl ?_
        refine h_iconst (pc' := 358) (x := (Int32.ofInt 1)) rfl rfl rfl ?_
        refine h_iadd (pc' := 359) rfl rfl hy3 ci_1 rfl (by omega) (by omega) (fun z141 hz141 => ?_)
        refine h_iald (pc' := 360) (v := s0 0 (b3 + 1)) rfl rfl rfl hz141 (by omega) (by omega) (Zs136 _) (fun z142 hz142 => ?_)
        have tz142 := h_rgv hz142
        clear hz141
        refine h_aload_n (pc' := 361) rfl rfl rfl ?_
        refine h_iload_n (pc' := 362) rfl rfl rfl ?_
        refine h_iconst (pc' := 363) (x := (Int32.ofInt 2)) rfl rfl rfl ?_
        refine h_iadd (pc' := 364) rfl rfl hy3 ci_2 rfl (by omega) (by omega) (fun z143 hz143 => ?_)
        refine h_iald (pc' := 365) (v := s0 0 (b3 + 2)) rfl rfl rfl hz143 (by omega) (by omega) (Zs136 _) (fun z144 hz144 => ?_)
        have tz144 := h_rgv hz144
        clear hz143
        refine h_call (sp := false) (pc' := 368) (M := [(0, .ref 98), (1, .int z142), (2, .int z144)]) rfl rfl rfl rfl rfl rfl rfl rfl ?_
        refine h_aload_n (pc' := 1) rfl rfl rfl ?_
        refine h_iload_n (pc' := 2) rfl rfl rfl ?_
        refine h_call (sp := false) (pc' := 5) (M := [(0, .ref 98), (1, .int z142)]) rfl rfl rfl rfl rfl rfl rfl rfl ?_
        refine h_iload_n (pc' := 1) rfl rfl rfl ?_
        refine h_i2l (pc' := 2) rfl rfl hz142 (fun z145 hz145 => ?_)
        refine h_lconst (pc' := 3) (x := (Int64.ofInt 0)) rfl rfl rfl ?_
        refine h_aload_n (pc' := 4) rfl rfl rfl ?_
        refine h_getI (pc' := 7) (v := s0 98 2) rfl rfl rfl rfl rfl es136_5 (fun z146 hz146 => ?_)
        have tz146 := tf_98_2 I0
        refine h_iconst (pc' := 8) (x := (Int32.ofInt 1)) rfl rfl rfl ?_
        refine h_isub (pc' := 9) rfl rfl hz146 ci_1 rfl (by omega) (by omega) (fun z147 hz147 => ?_)
        clear hz146
        refine h_i2l (pc' := 10) rfl rfl hz147 (fun z148 hz148 => ?_)
        clear hz147
        refine h_calls (pc' := 13) (M := [(0, .long z145), (2, .long (Int64.ofInt 0)), (4, .long z148)]) rfl rfl rfl rfl rfl rfl ?_
        refine h_lload_n (pc' := 1) rfl rfl rfl ?_
        refine h_lload_n (pc' := 2) rfl rfl rfl ?_
        refine h_lcmp (pc' := 3) rfl rfl hz145 cl_0 (fun z149 hz149 => ?_)
        refine h_zlt (tg := 17) (pc' := 6) rfl rfl rfl rfl (fun c150 => absurd c150 (by omega)) (fun c150 => ?_)
        replace c150 := (h_lcr hz149).2.1 c150
        clear hz149
        refine h_lload_n (pc' := 7) rfl rfl rfl ?_
        refine h_lload (pc' := 9) rfl rfl rfl ?_
        refine h_lcmp (pc' := 10) rfl rfl hz145 hz148 (fun z151 hz151 => ?_)
        refine h_zgt (tg := 17) (pc' := 13) rfl rfl rfl rfl (fun c152 => absurd c152 (by omega)) (fun c152 => ?_)
        replace c152 := (h_lcr hz151).2.2.1 c152
        clear hz151
        refine h_iconst (pc' := 14) (x := (Int32.ofInt 1)) rfl rfl rfl ?_
        refine h_goto (pc' := 18) rfl rfl ?_
        refine h_zret rfl rfl ci_1 (by omega) (h_Kv ?_)
        clear hz145 hz148
        refine h_zret rfl rfl ci_1 (by omega) (h_Kv ?_)
        refine h_zne (tg := 10) (pc' := 8) rfl rfl rfl ci_1 (fun c153 => ?_) (fun c153 => absurd c153 (by omega))
        refine h_aload_n (pc' := 11) rfl rfl rfl ?_
        refine h_iconst (pc' := 12) (x := (Int32.ofInt 0)) rfl rfl rfl ?_
        refine h_call (sp := false) (pc' := 15) (M := [(0, .ref 98), (1, .int (Int32.ofInt 0))]) rfl rfl rfl rfl rfl rfl rfl rfl ?_
        refine n_lays _ Is136  (fun s155 Is155 Gs155 ps155_0 => h_Kn ?_)
        have Zs155 : ∀ i, s155 0 i = s0 0 i := fun i => (Gs155 0 i rfl).trans (Zs136 i)
        have Fs155 : h_F (fun _ _ => true) s155 s0 := fun _ _ h => by cases h
        have es155_0 : s155 64 1 = s0 64 1 := (Gs155 64 1 rfl).trans es136_0
        have es155_1 : s155 98 11 = s0 98 11 := (Gs155 98 11 rfl).trans es136_1
        have es155_2 : s155 64 4 = s0 64 4 := (Gs155 64 4 rfl).trans es136_2
        have es155_3 : s155 98 16 = s0 98 16 := (Gs155 98 16 rfl).trans es136_3
        have es155_4 : s155 10 9 = s0 10 9 := (Gs155 10 9 rfl).trans es136_4
        have es155_5 : s155 98 2 = s0 98 2 := (Gs155 98 2 rfl).trans es136_5
        refine h_iload_n (pc' := 16) rfl rfl rfl ?_
        refine h_tsw (dt := 96) (ts := [48, 58, 71, 81]) rfl rfl rfl rfl hz144 (fun c156 => absurd c156 (by omega)) ⟨fun c156 => absurd c156 (by omega), fun c156 => absurd c156 (by omega), fun c156 => absurd c156 (by omega), fun c156 => ?_, trivial⟩
        refine h_aload_n (pc' := 82) rfl rfl rfl ?_
        refine h_iload_n (pc' := 83) rfl rfl rfl ?_
        refine h_aload_n (pc' := 84) rfl rfl rfl ?_
        refine h_getR (pc' := 87) rfl rfl rfl rfl rfl ?_
        refine h_bipush (pc' := 89) (x := (Int32.ofInt 26)) rfl rfl cb_26 ?_
        refine h_iload_n (pc' := 90) rfl rfl rfl ?_
        refine h_iadd (pc' := 91) rfl rfl ci_26 hz142 rfl (by have g0 := h_rgv hz142; omega) (by have g0 := h_rgv hz142; omega) (fun z157 hz157 => ?_)
        refine h_iald (pc' := 92) (v := s155 99 (26 + (s0 0 (b3 + 1)))) rfl rfl rfl hz157 (by omega) (by omega) rfl (fun z158 hz158 => ?_)
        have tz158 := ty_99_6 Is155 (26 + (s0 0 (b3 + 1))) (by omega)
        clear hz157
        refine h_call (sp := false) (pc' := 95) (M := [(0, .ref 98), (1, .int z142), (2, .int z158)]) rfl rfl rfl rfl rfl rfl rfl rfl ?_
        refine n_lets _ Is155 z142 _ hz142 (by omega) z158 _ hz158 (fun r159 br159 hr159 ps160_0 => h_Kv ?_)
        have kr159 := hr159
        clear hz158
        refine h_iret rfl rfl (h_Kv ?_)
        clear hz142 hz144
        refine h_ceq (tg := 1441) (pc' := 371) rfl rfl rfl hr139 hr159 (fun c161 => ?_) (fun c161 => ?_)
        · exact kk _ Is155 (by first | exact d_tape.le j0 (Int.le_antisymm (by omega) (by omega)) (by omega) (fun j => (Gs155 65 j rfl).trans ((Gs136 65 j rfl))) (fun j => (Gs155 102 j rfl).trans ((Gs136 102 j rfl))) | (exfalso; omega)) (Int.le_antisymm (by omega) (by omega)) (c_R.fr (c_R.fr j2 I0 Gs136 rfl) Is136 Gs155 rfl) (g_ti.e j3 ((funext (fun j => Gs155 100 j rfl)).trans (funext (fun j => Gs136 100 j rfl)))) (g_SH.e j4 ((funext (fun j => Gs155 94 j rfl)).trans (funext (fun j => Gs136 94 j rfl))) ((funext (fun j => Gs155 95 j rfl)).trans (funext (fun j => Gs136 95 j rfl))) ((funext (fun j => Gs155 96 j rfl)).trans (funext (fun j => Gs136 96 j rfl))) ((funext (fun j => Gs155 111 j rfl)).trans (funext (fun j => Gs136 111 j rfl))) ((funext (fun j => Gs155 112 j rfl)).trans (funext (fun j => Gs136 112 j rfl))) ((funext (fun j => Gs155 113 j rfl)).trans (funext (fun j => Gs136 113 j rfl))))
        · refine h_iconst (pc' := 372) (x := (Int32.ofInt 0)) rfl rfl rfl ?_
          first | have gp := j2.rc (j := s0 0 (b3 + 1)) (by omega) (by omega) | skip
          first | have gq := j2.lw (j := s0 0 (b3 + 1)) (by omega) (by omega) | skip
          have g1 : s155 99 (26 + (s0 0 (b3 + 1))) = s0 99 (26 + (s0 0 (b3 + 1))) := congrFun ((funext (fun j => Gs155 99 j rfl)).trans (funext (fun j => Gs136 99 j rfl))) _
          have g2 : s155 99 (29 + (s0 0 (b3 + 1))) = s0 99 (29 + (s0 0 (b3 + 1))) := congrFun ((funext (fun j => Gs155 99 j rfl)).trans (funext (fun j => Gs136 99 j rfl))) _
          have g3 : s155 99 (32 + (s0 0 (b3 + 1))) = s0 99 (32 + (s0 0 (b3 + 1))) := congrFun ((funext (fun j => Gs155 99 j rfl)).trans (funext (fun j => Gs136 99 j rfl))) _
          have g4 : s136 19 (s0 0 (b3 + 1)) = s0 19 (s0 0 (b3 + 1)) := congrFun (funext (fun j => Gs136 19 j rfl)) _
          have gc := congrArg Int32.toInt (ps140_0.trans ((c_R.lets j2 I0 j3 (g := s0 0 (b3 + 1)) (g_DX_t ps136_0 rfl rfl rfl rfl rfl rfl) (g_DM_t ps155_0 (Gs136 98 1 rfl) (Gs136 99 18 rfl) (funext (fun j => Gs136 99 j rfl)) (funext (fun j => Gs136 100 j rfl))) (g_FX_t ps136_2 rfl rfl rfl rfl rfl) (by omega) (ps136_1.trans rfl) ((Gs155 98 1 rfl).trans (Gs136 98 1 rfl)) (congrFun ((funext (fun j => Gs155 99 j rfl)).trans (funext (fun j => Gs136 99 j rfl))) 25) (congrArg (fun f => fun i => f (19 + 2 * i)) ((funext (fun j => Gs155 99 j rfl)).trans (funext (fun j => Gs136 99 j rfl)))) (congrArg (fun f => fun i => f (19 + 2 * i + 1)) ((funext (fun j => Gs155 99 j rfl)).trans (funext (fun j => Gs136 99 j rfl)))) (by first | rfl | exact congrFun (funext (fun j => Gs136 20 j rfl)) _) (congrArg g_orn (congrFun ((funext (fun j => Gs155 99 j rfl)).trans (funext (fun j => Gs136 99 j rfl))) (29 + (s0 0 (b3 + 1))))) (by first | exact j2.rc (by omega) (by omega) | omega) (by have gy := ty_19 I0 (s0 0 (b3 + 1)); omega)).trans ps160_0.symm))
          exfalso
          omega
