set_option maxHeartbeats 100000000 in
theorem g_case_284 {ns : Nat} (hns : ns ≤ 320) (s0 : h_S) (I0 : h_I s0) (j0 : d_tape s0 s0) (j1 : s0 64 4 = s0 98 16) (j2 : c_R true s0) (j3 : g_ti s0) (j4 : g_SH s0) (y3 : Int32) (b3 : Int) (hy3 : y3.toInt = b3) (hr : 0 ≤ b3 ∧ b3 + 5 ≤ ns) {Q : Option Value → h_S → Prop} (kk : ∀ τ, h_I τ → (d_tape τ τ) → (τ 64 4 = τ 98 16) → (c_R true τ) → (g_ti τ) → (g_SH τ) → h_T g_P (g_Y ns) 225 1441 [(0, .ref 0), (1, .ref 9), (2, .ref 98), (3, .int y3)] [] τ Q) : h_T g_P (g_Y ns) 225 284 [(0, .ref 0), (1, .ref 9), (2, .ref 98), (3, .int y3)] [] s0 Q := by
  have F0_ : h_F (fun _ _ => true) s0 s0 := h_F.rf
  have j0_ := j0.2
  have i0 := tf_64_1 I0
  have i1 := tf_98_11 I0
  have i2 := tf_64_4 I0
  have i3 := tf_98_16 I0
  have i4 := tf_10_8 I0
  have i5 := tf_98_1 I0
  have i6 := tf_10_9 I0
  have i7 := tf_98_2 I0
  have i8 := tf_10_10 I0
  have i10 := tf_13_2 I0
  have i12 := tf_16_2 I0
  have j2_ := j2.sz
  have y43 := ty_99_10 I0 43 (by omega)
  have y18 := ty_99_3 I0 18 (by omega)
  have y25 := ty_99_5 I0 25 (by omega)
  refine h_aload_n (pc' := 285) rfl rfl rfl ?_
  refine h_aload_n (pc' := 286) rfl rfl rfl ?_
  refine h_iload_n (pc' := 287) rfl rfl rfl ?_
  refine h_iconst (pc' := 288) (x := (Int32.ofInt 1)) rfl rfl rfl ?_
  refine h_iadd (pc' := 289) rfl rfl hy3 ci_1 rfl (by omega) (by omega) (fun z1 hz1 => ?_)
  refine h_iald (pc' := 290) (v := s0 0 (b3 + 1)) rfl rfl rfl hz1 (by omega) (by omega) rfl (fun z2 hz2 => ?_)
  have tz2 := h_rgv hz2
  clear hz1
  refine h_call (sp := false) (pc' := 293) (M := [(0, .ref 9), (1, .int z2)]) rfl rfl rfl rfl rfl rfl rfl rfl ?_
  refine h_iload_n (pc' := 1) rfl rfl rfl ?_
  refine h_tsw (dt := 94) (ts := [40, 48, 59, 70, 78, 86]) rfl rfl rfl rfl hz2 (fun c3 => ?_) ⟨fun c3 => ?_, fun c3 => ?_, fun c3 => ?_, fun c3 => ?_, fun c3 => ?_, fun c3 => ?_, trivial⟩
  · refine h_iconst (pc' := 95) (x := (Int32.ofInt (-1))) rfl rfl rfl ?_
    refine h_iret rfl rfl (h_Kv ?_)
    clear hz2
    refine h_aload_n (pc' := 294) rfl rfl rfl ?_
    refine h_aload_n (pc' := 295) rfl rfl rfl ?_
    refine h_iload_n (pc' := 296) rfl rfl rfl ?_
    refine h_iconst (pc' := 297) (x := (Int32.ofInt 1)) rfl rfl rfl ?_
    refine h_iadd (pc' := 298) rfl rfl hy3 ci_1 rfl (by omega) (by omega) (fun z4 hz4 => ?_)
    refine h_iald (pc' := 299) (v := s0 0 (b3 + 1)) rfl rfl rfl hz4 (by omega) (by omega) rfl (fun z5 hz5 => ?_)
    have tz5 := h_rgv hz5
    clear hz4
    refine h_call (sp := false) (pc' := 302) (M := [(0, .ref 98), (1, .int z5)]) rfl rfl rfl rfl rfl rfl rfl rfl ?_
    refine h_iload_n (pc' := 1) rfl rfl rfl ?_
    refine h_tsw (dt := 79) (ts := [40, 45, 53, 61, 66, 74]) rfl rfl rfl rfl hz5 (fun c6 => ?_) ⟨fun c6 => ?_, fun c6 => ?_, fun c6 => ?_, fun c6 => ?_, fun c6 => ?_, fun c6 => ?_, trivial⟩
    · refine h_iconst (pc' := 80) (x := (Int32.ofInt (-1))) rfl rfl rfl ?_
      refine h_iret rfl rfl (h_Kv ?_)
      clear hz5
      refine h_ceq (tg := 1441) (pc' := 305) rfl rfl rfl ci_m1 ci_m1 (fun c7 => ?_) (fun c7 => absurd (Int.le_antisymm (by omega) (by omega)) c7)
      exact kk _ I0 (by first | exact d_tape.le j0 (Int.le_antisymm (by omega) (by omega)) (by omega) (fun j => rfl) (fun j => rfl) | (exfalso; omega)) (Int.le_antisymm (by omega) (by omega)) j2 (g_ti.e j3 rfl) (g_SH.e j4 rfl rfl rfl rfl rfl rfl)
    · refine h_aload_n (pc' := 41) rfl rfl rfl ?_
      refine h_getI (pc' := 44) (v := s0 98 1) rfl rfl rfl rfl rfl rfl (fun z8 hz8 => ?_)
      have tz8 := tf_98_1 I0
      refine h_iret rfl rfl (h_Kv ?_)
      clear hz5
      refine h_ceq (tg := 1441) (pc' := 305) rfl rfl rfl ci_m1 hz8 (fun c9 => absurd c9 (by omega)) (fun c9 => ?_)
      clear hz8
      refine h_iconst (pc' := 306) (x := (Int32.ofInt 0)) rfl rfl rfl ?_
      exfalso
      omega
    · refine h_aload_n (pc' := 46) rfl rfl rfl ?_
      refine h_getR (pc' := 49) rfl rfl rfl rfl rfl ?_
      refine h_bipush (pc' := 51) (x := (Int32.ofInt 18)) rfl rfl cb_18 ?_
      refine h_iald (pc' := 52) (v := s0 99 18) rfl rfl rfl ci_18 (by omega) (by omega) rfl (fun z10 hz10 => ?_)
      have tz10 := ty_99_3 I0 18 (by omega)
      refine h_iret rfl rfl (h_Kv ?_)
      clear hz5
      refine h_ceq (tg := 1441) (pc' := 305) rfl rfl rfl ci_m1 hz10 (fun c11 => absurd c11 (by omega)) (fun c11 => ?_)
      clear hz10
      refine h_iconst (pc' := 306) (x := (Int32.ofInt 0)) rfl rfl rfl ?_
      exfalso
      omega
    · refine h_aload_n (pc' := 54) rfl rfl rfl ?_
      refine h_getR (pc' := 57) rfl rfl rfl rfl rfl ?_
      refine h_bipush (pc' := 59) (x := (Int32.ofInt 25)) rfl rfl cb_25 ?_
      refine h_iald (pc' := 60) (v := s0 99 25) rfl rfl rfl ci_25 (by omega) (by omega) rfl (fun z12 hz12 => ?_)
      have tz12 := ty_99_5 I0 25 (by omega)
      refine h_iret rfl rfl (h_Kv ?_)
      clear hz5
      refine h_ceq (tg := 1441) (pc' := 305) rfl rfl rfl ci_m1 hz12 (fun c13 => absurd c13 (by omega)) (fun c13 => ?_)
      clear hz12
      refine h_iconst (pc' := 306) (x := (Int32.ofInt 0)) rfl rfl rfl ?_
      exfalso
      omega
    · refine h_aload_n (pc' := 62) rfl rfl rfl ?_
      refine h_getI (pc' := 65) (v := s0 98 2) rfl rfl rfl rfl rfl rfl (fun z14 hz14 => ?_)
      have tz14 := tf_98_2 I0
      refine h_iret rfl rfl (h_Kv ?_)
      clear hz5
      refine h_ceq (tg := 1441) (pc' := 305) rfl rfl rfl ci_m1 hz14 (fun c15 => absurd c15 (by omega)) (fun c15 => ?_)
      clear hz14
      refine h_iconst (pc' := 306) (x := (Int32.ofInt 0)) rfl rfl rfl ?_
      exfalso
      omega
    · refine h_aload_n (pc' := 67) rfl rfl rfl ?_
      refine h_getR (pc' := 70) rfl rfl rfl rfl rfl ?_
      refine h_bipush (pc' := 72) (x := (Int32.ofInt 43)) rfl rfl cb_43 ?_
      refine h_iald (pc' := 73) (v := s0 99 43) rfl rfl rfl ci_43 (by omega) (by omega) rfl (fun z16 hz16 => ?_)
      have tz16 := ty_99_10 I0 43 (by omega)
      refine h_iret rfl rfl (h_Kv ?_)
      clear hz5
      refine h_ceq (tg := 1441) (pc' := 305) rfl rfl rfl ci_m1 hz16 (fun c17 => absurd c17 (by omega)) (fun c17 => ?_)
      clear hz16
      refine h_iconst (pc' := 306) (x := (Int32.ofInt 0)) rfl rfl rfl ?_
      exfalso
      omega
    · refine h_aload_n (pc' := 75) rfl rfl rfl ?_
      refine h_call (sp := false) (pc' := 78) (M := [(0, .ref 98)]) rfl rfl rfl rfl rfl rfl rfl rfl ?_
      refine n_wentM _ I0  (fun r18 br18 hr18 ps19_0 => h_Kv ?_)
      have kr18 := hr18
      refine h_iret rfl rfl (h_Kv ?_)
      clear hz5
      refine h_ceq (tg := 1441) (pc' := 305) rfl rfl rfl ci_m1 hr18 (fun c20 => ?_) (fun c20 => ?_)
      · exact kk _ I0 (by first | exact d_tape.le j0 (Int.le_antisymm (by omega) (by omega)) (by omega) (fun j => rfl) (fun j => rfl) | (exfalso; omega)) (Int.le_antisymm (by omega) (by omega)) j2 (g_ti.e j3 rfl) (g_SH.e j4 rfl rfl rfl rfl rfl rfl)
      · refine h_iconst (pc' := 306) (x := (Int32.ofInt 0)) rfl rfl rfl ?_
        exfalso
        omega
  · refine h_aload_n (pc' := 41) rfl rfl rfl ?_
    refine h_getR (pc' := 44) rfl rfl rfl rfl rfl ?_
    refine h_getI (pc' := 47) (v := s0 10 8) rfl rfl rfl rfl rfl rfl (fun z21 hz21 => ?_)
    have tz21 := tf_10_8 I0
    refine h_iret rfl rfl (h_Kv ?_)
    clear hz2
    refine h_aload_n (pc' := 294) rfl rfl rfl ?_
    refine h_aload_n (pc' := 295) rfl rfl rfl ?_
    refine h_iload_n (pc' := 296) rfl rfl rfl ?_
    refine h_iconst (pc' := 297) (x := (Int32.ofInt 1)) rfl rfl rfl ?_
    refine h_iadd (pc' := 298) rfl rfl hy3 ci_1 rfl (by omega) (by omega) (fun z22 hz22 => ?_)
    refine h_iald (pc' := 299) (v := s0 0 (b3 + 1)) rfl rfl rfl hz22 (by omega) (by omega) rfl (fun z23 hz23 => ?_)
    have tz23 := h_rgv hz23
    clear hz22
    refine h_call (sp := false) (pc' := 302) (M := [(0, .ref 98), (1, .int z23)]) rfl rfl rfl rfl rfl rfl rfl rfl ?_
    refine h_iload_n (pc' := 1) rfl rfl rfl ?_
    refine h_tsw (dt := 79) (ts := [40, 45, 53, 61, 66, 74]) rfl rfl rfl rfl hz23 (fun c24 => absurd c24 (by omega)) ⟨fun c24 => ?_, fun c24 => absurd c24 (by omega), fun c24 => absurd c24 (by omega), fun c24 => absurd c24 (by omega), fun c24 => absurd c24 (by omega), fun c24 => absurd c24 (by omega), trivial⟩
    refine h_aload_n (pc' := 41) rfl rfl rfl ?_
    refine h_getI (pc' := 44) (v := s0 98 1) rfl rfl rfl rfl rfl rfl (fun z25 hz25 => ?_)
    have tz25 := tf_98_1 I0
    refine h_iret rfl rfl (h_Kv ?_)
    clear hz23
    refine h_ceq (tg := 1441) (pc' := 305) rfl rfl rfl hz21 hz25 (fun c26 => ?_) (fun c26 => absurd (Int.le_antisymm (by omega) (by omega)) c26)
    clear hz21 hz25
    exact kk _ I0 (by first | exact d_tape.le j0 (Int.le_antisymm (by omega) (by omega)) (by omega) (fun j => rfl) (fun j => rfl) | (exfalso; omega)) (Int.le_antisymm (by omega) (by omega)) j2 (g_ti.e j3 rfl) (g_SH.e j4 rfl rfl rfl rfl rfl rfl)
  · refine h_aload_n (pc' := 49) rfl rfl rfl ?_
    refine h_getR (pc' := 52) rfl rfl rfl rfl rfl ?_
    refine h_getR (pc' := 55) rfl rfl rfl rfl rfl ?_
    refine h_getI (pc' := 58) (v := s0 13 2) rfl rfl rfl rfl rfl rfl (fun z27 hz27 => ?_)
    have tz27 := tf_13_2 I0
    refine h_iret rfl rfl (h_Kv ?_)
    clear hz2
    refine h_aload_n (pc' := 294) rfl rfl rfl ?_
    refine h_aload_n (pc' := 295) rfl rfl rfl ?_
    refine h_iload_n (pc' := 296) rfl rfl rfl ?_
    refine h_iconst (pc' := 297) (x := (Int32.ofInt 1)) rfl rfl rfl ?_
    refine h_iadd (pc' := 298) rfl rfl hy3 ci_1 rfl (by omega) (by omega) (fun z28 hz28 => ?_)
    refine h_iald (pc' := 299) (v := s0 0 (b3 + 1)) rfl rfl rfl hz28 (by omega) (by omega) rfl (fun z29 hz29 => ?_)
    have tz29 := h_rgv hz29
    clear hz28
    refine h_call (sp := false) (pc' := 302) (M := [(0, .ref 98), (1, .int z29)]) rfl rfl rfl rfl rfl rfl rfl rfl ?_
    refine h_iload_n (pc' := 1) rfl rfl rfl ?_
    refine h_tsw (dt := 79) (ts := [40, 45, 53, 61, 66, 74]) rfl rfl rfl rfl hz29 (fun c30 => absurd c30 (by omega)) ⟨fun c30 => absurd c30 (by omega), fun c30 => ?_, fun c30 => absurd c30 (by omega), fun c30 => absurd c30 (by omega), fun c30 => absurd c30 (by omega), fun c30 => absurd c30 (by omega), trivial⟩
    refine h_aload_n (pc' := 46) rfl rfl rfl ?_
    refine h_getR (pc' := 49) rfl rfl rfl rfl rfl ?_
    refine h_bipush (pc' := 51) (x := (Int32.ofInt 18)) rfl rfl cb_18 ?_
    refine h_iald (pc' := 52) (v := s0 99 18) rfl rfl rfl ci_18 (by omega) (by omega) rfl (fun z31 hz31 => ?_)
    have tz31 := ty_99_3 I0 18 (by omega)
    refine h_iret rfl rfl (h_Kv ?_)
    clear hz29
    refine h_ceq (tg := 1441) (pc' := 305) rfl rfl rfl hz27 hz31 (fun c32 => ?_) (fun c32 => absurd (Int.le_antisymm (by omega) (by omega)) c32)
    clear hz27 hz31
    exact kk _ I0 (by first | exact d_tape.le j0 (Int.le_antisymm (by omega) (by omega)) (by omega) (fun j => rfl) (fun j => rfl) | (exfalso; omega)) (Int.le_antisymm (by omega) (by omega)) j2 (g_ti.e j3 rfl) (g_SH.e j4 rfl rfl rfl rfl rfl rfl)
  · refine h_aload_n (pc' := 60) rfl rfl rfl ?_
    refine h_getR (pc' := 63) rfl rfl rfl rfl rfl ?_
    refine h_getR (pc' := 66) rfl rfl rfl rfl rfl ?_
    refine h_getI (pc' := 69) (v := s0 16 2) rfl rfl rfl rfl rfl rfl (fun z33 hz33 => ?_)
    have tz33 := tf_16_2 I0
    refine h_iret rfl rfl (h_Kv ?_)
    clear hz2
    refine h_aload_n (pc' := 294) rfl rfl rfl ?_
    refine h_aload_n (pc' := 295) rfl rfl rfl ?_
    refine h_iload_n (pc' := 296) rfl rfl rfl ?_
    refine h_iconst (pc' := 297) (x := (Int32.ofInt 1)) rfl rfl rfl ?_
    refine h_iadd (pc' := 298) rfl rfl hy3 ci_1 rfl (by omega) (by omega) (fun z34 hz34 => ?_)
    refine h_iald (pc' := 299) (v := s0 0 (b3 + 1)) rfl rfl rfl hz34 (by omega) (by omega) rfl (fun z35 hz35 => ?_)
    have tz35 := h_rgv hz35
    clear hz34
    refine h_call (sp := false) (pc' := 302) (M := [(0, .ref 98), (1, .int z35)]) rfl rfl rfl rfl rfl rfl rfl rfl ?_
    refine h_iload_n (pc' := 1) rfl rfl rfl ?_
    refine h_tsw (dt := 79) (ts := [40, 45, 53, 61, 66, 74]) rfl rfl rfl rfl hz35 (fun c36 => absurd c36 (by omega)) ⟨fun c36 => absurd c36 (by omega), fun c36 => absurd c36 (by omega), fun c36 => ?_, fun c36 => absurd c36 (by omega), fun c36 => absurd c36 (by omega), fun c36 => absurd c36 (by omega), trivial⟩
    refine h_aload_n (pc' := 54) rfl rfl rfl ?_
    refine h_getR (pc' := 57) rfl rfl rfl rfl rfl ?_
    refine h_bipush (pc' := 59) (x := (Int32.ofInt 25)) rfl rfl cb_25 ?_
    refine h_iald (pc' := 60) (v := s0 99 25) rfl rfl rfl ci_25 (by omega) (by omega) rfl (fun z37 hz37 => ?_)
    have tz37 := ty_99_5 I0 25 (by omega)
    refine h_iret rfl rfl (h_Kv ?_)
    clear hz35
    refine h_ceq (tg := 1441) (pc' := 305) rfl rfl rfl hz33 hz37 (fun c38 => ?_) (fun c38 => absurd (Int.le_antisymm (by omega) (by omega)) c38)
    clear hz33 hz37
    exact kk _ I0 (by first | exact d_tape.le j0 (Int.le_antisymm (by omega) (by omega)) (by omega) (fun j => rfl) (fun j => rfl) | (exfalso; omega)) (Int.le_antisymm (by omega) (by omega)) j2 (g_ti.e j3 rfl) (g_SH.e j4 rfl rfl rfl rfl rfl rfl)
  · refine h_aload_n (pc' := 71) rfl rfl rfl ?_
    refine h_getR (pc' := 74) rfl rfl rfl rfl rfl ?_
    refine h_getI (pc' := 77) (v := s0 10 9) rfl rfl rfl rfl rfl rfl (fun z39 hz39 => ?_)
    have tz39 := tf_10_9 I0
    refine h_iret rfl rfl (h_Kv ?_)
    clear hz2
    refine h_aload_n (pc' := 294) rfl rfl rfl ?_
    refine h_aload_n (pc' := 295) rfl rfl rfl ?_
    refine h_iload_n (pc' := 296) rfl rfl rfl ?_
    refine h_iconst (pc' := 297) (x := (Int32.ofInt 1)) rfl rfl rfl ?_
    refine h_iadd (pc' := 298) rfl rfl hy3 ci_1 rfl (by omega) (by omega) (fun z40 hz40 => ?_)
    refine h_iald (pc' := 299) (v := s0 0 (b3 + 1)) rfl rfl rfl hz40 (by omega) (by omega) rfl (fun z41 hz41 => ?_)
    have tz41 := h_rgv hz41
    clear hz40
    refine h_call (sp := false) (pc' := 302) (M := [(0, .ref 98), (1, .int z41)]) rfl rfl rfl rfl rfl rfl rfl rfl ?_
    refine h_iload_n (pc' := 1) rfl rfl rfl ?_
    refine h_tsw (dt := 79) (ts := [40, 45, 53, 61, 66, 74]) rfl rfl rfl rfl hz41 (fun c42 => absurd c42 (by omega)) ⟨fun c42 => absurd c42 (by omega), fun c42 => absurd c42 (by omega), fun c42 => absurd c42 (by omega), fun c42 => ?_, fun c42 => absurd c42 (by omega), fun c42 => absurd c42 (by omega), trivial⟩
    refine h_aload_n (pc' := 62) rfl rfl rfl ?_
    refine h_getI (pc' := 65) (v := s0 98 2) rfl rfl rfl rfl rfl rfl (fun z43 hz43 => ?_)
    have tz43 := tf_98_2 I0
    refine h_iret rfl rfl (h_Kv ?_)
    clear hz41
    refine h_ceq (tg := 1441) (pc' := 305) rfl rfl rfl hz39 hz43 (fun c44 => ?_) (fun c44 => absurd (Int.le_antisymm (by omega) (by omega)) c44)
    clear hz39 hz43
    exact kk _ I0 (by first | exact d_tape.le j0 (Int.le_antisymm (by omega) (by omega)) (by omega) (fun j => rfl) (fun j => rfl) | (exfalso; omega)) (Int.le_antisymm (by omega) (by omega)) j2 (g_ti.e j3 rfl) (g_SH.e j4 rfl rfl rfl rfl rfl rfl)
  · refine h_aload_n (pc' := 79) rfl rfl rfl ?_
    refine h_getR (pc' := 82) rfl rfl rfl rfl rfl ?_
    refine h_getI (pc' := 85) (v := s0 10 10) rfl rfl rfl rfl rfl rfl (fun z45 hz45 => ?_)
    have tz45 := tf_10_10 I0
    refine h_iret rfl rfl (h_Kv ?_)
    clear hz2
    refine h_aload_n (pc' := 294) rfl rfl rfl ?_
    refine h_aload_n (pc' := 295) rfl rfl rfl ?_
    refine h_iload_n (pc' := 296) rfl rfl rfl ?_
    refine h_iconst (pc' := 297) (x := (Int32.ofInt 1)) rfl rfl rfl ?_
    refine h_iadd (pc' := 298) rfl rfl hy3 ci_1 rfl (by omega) (by omega) (fun z46 hz46 => ?_)
    refine h_iald (pc' := 299) (v := s0 0 (b3 + 1)) rfl rfl rfl hz46 (by omega) (by omega) rfl (fun z47 hz47 => ?_)
    have tz47 := h_rgv hz47
    clear hz46
    refine h_call (sp := false) (pc' := 302) (M := [(0, .ref 98), (1, .int z47)]) rfl rfl rfl rfl rfl rfl rfl rfl ?_
    refine h_iload_n (pc' := 1) rfl rfl rfl ?_
    refine h_tsw (dt := 79) (ts := [40, 45, 53, 61, 66, 74]) rfl rfl rfl rfl hz47 (fun c48 => absurd c48 (by omega)) ⟨fun c48 => absurd c48 (by omega), fun c48 => absurd c48 (by omega), fun c48 => absurd c48 (by omega), fun c48 => absurd c48 (by omega), fun c48 => ?_, fun c48 => absurd c48 (by omega), trivial⟩
    refine h_aload_n (pc' := 67) rfl rfl rfl ?_
    refine h_getR (pc' := 70) rfl rfl rfl rfl rfl ?_
    refine h_bipush (pc' := 72) (x := (Int32.ofInt 43)) rfl rfl cb_43 ?_
    refine h_iald (pc' := 73) (v := s0 99 43) rfl rfl rfl ci_43 (by omega) (by omega) rfl (fun z49 hz49 => ?_)
    have tz49 := ty_99_10 I0 43 (by omega)
    refine h_iret rfl rfl (h_Kv ?_)
    clear hz47
    refine h_ceq (tg := 1441) (pc' := 305) rfl rfl rfl hz45 hz49 (fun c50 => ?_) (fun c50 => absurd (Int.le_antisymm (by omega) (by omega)) c50)
    clear hz45 hz49
    exact kk _ I0 (by first | exact d_tape.le j0 (Int.le_antisymm (by omega) (by omega)) (by omega) (fun j => rfl) (fun j => rfl) | (exfalso; omega)) (Int.le_antisymm (by omega) (by omega)) j2 (g_ti.e j3 rfl) (g_SH.e j4 rfl rfl rfl rfl rfl rfl)
  · refine h_aload_n (pc' := 87) rfl rfl rfl ?_
    refine h_getR (pc' := 90) rfl rfl rfl rfl rfl ?_
    refine h_call (sp := false) (pc' := 93) (M := [(0, .ref 10)]) rfl rfl rfl rfl rfl rfl rfl rfl ?_
    refine n_wentX _ I0  (fun r51 br51 hr51 ps52_0 => h_Kv ?_)
    have kr51 := hr51
    refine h_iret rfl rfl (h_Kv ?_)
    clear hz2
    refine h_aload_n (pc' := 294) rfl rfl rfl ?_
    refine h_aload_n (pc' := 295) rfl rfl rfl ?_
    refine h_iload_n (pc' := 296) rfl rfl rfl ?_
    refine h_iconst (pc' := 297) (x := (Int32.ofInt 1)) rfl rfl rfl ?_
    refine h_iadd (pc' := 298) rfl rfl hy3 ci_1 rfl (by omega) (by omega) (fun z53 hz53 => ?_)
    refine h_iald (pc' := 299) (v := s0 0 (b3 + 1)) rfl rfl rfl hz53 (by omega) (by omega) rfl (fun z54 hz54 => ?_)
    have tz54 := h_rgv hz54
    clear hz53
    refine h_call (sp := false) (pc' := 302) (M := [(0, .ref 98), (1, .int z54)]) rfl rfl rfl rfl rfl rfl rfl rfl ?_
    refine h_iload_n (pc' := 1) rfl rfl rfl ?_
    refine h_tsw (dt := 79) (ts := [40, 45, 53, 61, 66, 74]) rfl rfl rfl rfl hz54 (fun c55 => absurd c55 (by omega)) ⟨fun c55 => absurd c55 (by omega), fun c55 => absurd c55 (by omega), fun c55 => absurd c55 (by omega), fun c55 => absurd c55 (by omega), fun c55 => absurd c55 (by omega), fun c55 => ?_, trivial⟩
    refine h_aload_n (pc' := 75) rfl rfl rfl ?_
    refine h_call (sp := false) (pc' := 78) (M := [(0, .ref 98)]) rfl rfl rfl rfl rfl rfl rfl rfl ?_
    refine n_wentM _ I0  (fun r56 br56 hr56 ps57_0 => h_Kv ?_)
    have kr56 := hr56
    refine h_iret rfl rfl (h_Kv ?_)
    clear hz54
    refine h_ceq (tg := 1441) (pc' := 305) rfl rfl rfl hr51 hr56 (fun c58 => ?_) (fun c58 => ?_)
    · exact kk _ I0 (by first | exact d_tape.le j0 (Int.le_antisymm (by omega) (by omega)) (by omega) (fun j => rfl) (fun j => rfl) | (exfalso; omega)) (Int.le_antisymm (by omega) (by omega)) j2 (g_ti.e j3 rfl) (g_SH.e j4 rfl rfl rfl rfl rfl rfl)
    · refine h_iconst (pc' := 306) (x := (Int32.ofInt 0)) rfl rfl rfl ?_
      have gc := congrArg Int32.toInt (ps52_0.trans ((j2.su rfl rfl).trans ps57_0.symm))
      exfalso
      omega
set_option maxHeartbeats 100000000 in
theorem g_case_307 {ns : Nat} (hns : ns ≤ 320) (s0 : h_S) (I0 : h_I s0) (j0 : d_tape s0 s0) (j1 : s0 64 4 = s0 98 16) (j2 : c_R true s0) (j3 : g_ti s0) (j4 : g_SH s0) (y3 : Int32) (b3 : Int) (hy3 : y3.toInt = b3) (hr : 0 ≤ b3 ∧ b3 + 5 ≤ ns) {Q : Option Value → h_S → Prop} (kk : ∀ τ, h_I τ → (d_tape τ τ) → (τ 64 4 = τ 98 16) → (c_R true τ) → (g_ti τ) → (g_SH τ) → h_T g_P (g_Y ns) 225 1441 [(0, .ref 0), (1, .ref 9), (2, .ref 98), (3, .int y3)] [] τ Q) : h_T g_P (g_Y ns) 225 307 [(0, .ref 0), (1, .ref 9), (2, .ref 98), (3, .int y3)] [] s0 Q := by
  have F0_ : h_F (fun _ _ => true) s0 s0 := h_F.rf
  have j0_ := j0.2
  have i0 := tf_64_1 I0
  have i1 := tf_98_11 I0
  have i2 := tf_64_4 I0
  have i3 := tf_98_16 I0
  have i4 := tf_10_8 I0
  have i5 := tf_98_1 I0
  have j2_ := j2.sz
  refine h_aload_n (pc' := 308) rfl rfl rfl ?_
  refine h_aload_n (pc' := 309) rfl rfl rfl ?_
  refine h_iload_n (pc' := 310) rfl rfl rfl ?_
  refine h_iconst (pc' := 311) (x := (Int32.ofInt 1)) rfl rfl rfl ?_
  refine h_iadd (pc' := 312) rfl rfl hy3 ci_1 rfl (by omega) (by omega) (fun z1 hz1 => ?_)
  refine h_iald (pc' := 313) (v := s0 0 (b3 + 1)) rfl rfl rfl hz1 (by omega) (by omega) rfl (fun z2 hz2 => ?_)
  have tz2 := h_rgv hz2
  clear hz1
  refine h_aload_n (pc' := 314) rfl rfl rfl ?_
  refine h_iload_n (pc' := 315) rfl rfl rfl ?_
  refine h_iconst (pc' := 316) (x := (Int32.ofInt 2)) rfl rfl rfl ?_
  refine h_iadd (pc' := 317) rfl rfl hy3 ci_2 rfl (by omega) (by omega) (fun z3 hz3 => ?_)
  refine h_iald (pc' := 318) (v := s0 0 (b3 + 2)) rfl rfl rfl hz3 (by omega) (by omega) rfl (fun z4 hz4 => ?_)
  have tz4 := h_rgv hz4
  clear hz3
  refine h_call (sp := false) (pc' := 321) (M := [(0, .ref 9), (1, .int z2), (2, .int z4)]) rfl rfl rfl rfl rfl rfl rfl rfl ?_
  refine w_87_9 _ I0 z2 _ hz2 z4 _ hz4 (fun r5 br5 hr5 s6 Is6 Gs6 => h_Kv ?_)
  have Zs6 : ∀ i, s6 0 i = s0 0 i := fun i => (Gs6 0 i rfl).trans rfl
  have Fs6 : h_F (fun _ _ => true) s6 s0 := fun _ _ h => by cases h
  have es6_0 : s6 64 1 = s0 64 1 := (Gs6 64 1 rfl).trans rfl
  have es6_1 : s6 98 11 = s0 98 11 := (Gs6 98 11 rfl).trans rfl
  have es6_2 : s6 64 4 = s0 64 4 := (Gs6 64 4 rfl).trans rfl
  have es6_3 : s6 98 16 = s0 98 16 := (Gs6 98 16 rfl).trans rfl
  have es6_4 : s6 10 8 = s0 10 8 := (Gs6 10 8 rfl).trans rfl
  have es6_5 : s6 98 1 = s0 98 1 := (Gs6 98 1 rfl).trans rfl
  clear hz2 hz4
  refine h_pop (pc' := 322) rfl rfl rfl ?_
  clear hr5
  refine h_aload_n (pc' := 323) rfl rfl rfl ?_
  refine h_aload_n (pc' := 324) rfl rfl rfl ?_
  refine h_iload_n (pc' := 325) rfl rfl rfl ?_
  refine h_iconst (pc' := 326) (x := (Int32.ofInt 1)) rfl rfl rfl ?_
  refine h_iadd (pc' := 327) rfl rfl hy3 ci_1 rfl (by omega) (by omega) (fun z7 hz7 => ?_)
  refine h_iald (pc' := 328) (v := s0 0 (b3 + 1)) rfl rfl rfl hz7 (by omega) (by omega) (Zs6 _) (fun z8 hz8 => ?_)
  have tz8 := h_rgv hz8
  clear hz7
  refine h_aload_n (pc' := 329) rfl rfl rfl ?_
  refine h_iload_n (pc' := 330) rfl rfl rfl ?_
  refine h_iconst (pc' := 331) (x := (Int32.ofInt 2)) rfl rfl rfl ?_
  refine h_iadd (pc' := 332) rfl rfl hy3 ci_2 rfl (by omega) (by omega) (fun z9 hz9 => ?_)
  refine h_iald (pc' := 333) (v := s0 0 (b3 + 2)) rfl rfl rfl hz9 (by omega) (by omega) (Zs6 _) (fun z10 hz10 => ?_)
  have tz10 := h_rgv hz10
  clear hz9
  refine h_call (sp := false) (pc' := 336) (M := [(0, .ref 98), (1, .int z8), (2, .int z10)]) rfl rfl rfl rfl rfl rfl rfl rfl ?_
  refine w_168_98 _ Is6 z8 _ hz8 z10 _ hz10 (fun r11 br11 hr11 s12 Is12 Gs12 => h_Kv ?_)
  have Zs12 : ∀ i, s12 0 i = s0 0 i := fun i => (Gs12 0 i rfl).trans (Zs6 i)
  have Fs12 : h_F (fun _ _ => true) s12 s0 := fun _ _ h => by cases h
  have es12_0 : s12 64 1 = s0 64 1 := (Gs12 64 1 rfl).trans es6_0
  have es12_1 : s12 98 11 = s0 98 11 := (Gs12 98 11 rfl).trans es6_1
  have es12_2 : s12 64 4 = s0 64 4 := (Gs12 64 4 rfl).trans es6_2
  have es12_3 : s12 98 16 = s0 98 16 := (Gs12 98 16 rfl).trans es6_3
  have es12_4 : s12 10 8 = s0 10 8 := (Gs12 10 8 rfl).trans es6_4
  have es12_5 : s12 98 1 = s0 98 1 := (Gs12 98 1 rfl).trans es6_5
  clear es6_0 es6_1 es6_2 es6_3 es6_4 es6_5
  clear hz10 hz8
  refine h_pop (pc' := 337) rfl rfl rfl ?_
  clear hr11
  refine h_goto (pc' := 1441) rfl rfl ?_
  exact kk _ Is12 (by first | exact d_tape.le j0 (Int.le_antisymm (by omega) (by omega)) (by omega) (fun j => (Gs12 65 j rfl).trans ((Gs6 65 j rfl))) (fun j => (Gs12 102 j rfl).trans ((Gs6 102 j rfl))) | (exfalso; omega)) (Int.le_antisymm (by omega) (by omega)) (c_R.fr (c_R.fr j2 I0 Gs6 rfl) Is6 Gs12 rfl) (g_ti.e j3 ((funext (fun j => Gs12 100 j rfl)).trans (funext (fun j => Gs6 100 j rfl)))) (g_SH.e j4 ((funext (fun j => Gs12 94 j rfl)).trans (funext (fun j => Gs6 94 j rfl))) ((funext (fun j => Gs12 95 j rfl)).trans (funext (fun j => Gs6 95 j rfl))) ((funext (fun j => Gs12 96 j rfl)).trans (funext (fun j => Gs6 96 j rfl))) ((funext (fun j => Gs12 111 j rfl)).trans (funext (fun j => Gs6 111 j rfl))) ((funext (fun j => Gs12 112 j rfl)).trans (funext (fun j => Gs6 112 j rfl))) ((funext (fun j => Gs12 113 j rfl)).trans (funext (fun j => Gs6 113 j rfl))))
set_option maxHeartbeats 100000000 in
theorem g_case_340 {ns : Nat} (hns : ns ≤ 320) (s0 : h_S) (I0 : h_I s0) (j0 : d_tape s0 s0) (j1 : s0 64 4 = s0 98 16) (j2 : c_R true s0) (j3 : g_ti s0) (j4 : g_SH s0) (y3 : Int32) (b3 : Int) (hy3 : y3.toInt = b3) (hr : 0 ≤ b3 ∧ b3 + 5 ≤ ns) {Q : Option Value → h_S → Prop} (kk : ∀ τ, h_I τ → (d_tape τ τ) → (τ 64 4 = τ 98 16) → (c_R true τ) → (g_ti τ) → (g_SH τ) → h_T g_P (g_Y ns) 225 1441 [(0, .ref 0), (1, .ref 9), (2, .ref 98), (3, .int y3)] [] τ Q) : h_T g_P (g_Y ns) 225 340 [(0, .ref 0), (1, .ref 9), (2, .ref 98), (3, .int y3)] [] s0 Q := by
  have F0_ : h_F (fun _ _ => true) s0 s0 := h_F.rf
  have j0_ := j0.2
  have i0 := tf_64_1 I0
  have i1 := tf_98_11 I0
  have i2 := tf_64_4 I0
  have i3 := tf_98_16 I0
  have i4 := tf_10_9 I0
  have i5 := tf_98_2 I0
  have j2_ := j2.sz
  refine h_aload_n (pc' := 341) rfl rfl rfl ?_
  refine h_aload_n (pc' := 342) rfl rfl rfl ?_
  refine h_iload_n (pc' := 343) rfl rfl rfl ?_
  refine h_iconst (pc' := 344) (x := (Int32.ofInt 1)) rfl rfl rfl ?_
  refine h_iadd (pc' := 345) rfl rfl hy3 ci_1 rfl (by omega) (by omega) (fun z1 hz1 => ?_)
  refine h_iald (pc' := 346) (v := s0 0 (b3 + 1)) rfl rfl rfl hz1 (by omega) (by omega) rfl (fun z2 hz2 => ?_)
  have tz2 := h_rgv hz2
  clear hz1
  refine h_aload_n (pc' := 347) rfl rfl rfl ?_
  refine h_iload_n (pc' := 348) rfl rfl rfl ?_
  refine h_iconst (pc' := 349) (x := (Int32.ofInt 2)) rfl rfl rfl ?_
  refine h_iadd (pc' := 350) rfl rfl hy3 ci_2 rfl (by omega) (by omega) (fun z3 hz3 => ?_)
  refine h_iald (pc' := 351) (v := s0 0 (b3 + 2)) rfl rfl rfl hz3 (by omega) (by omega) rfl (fun z4 hz4 => ?_)
  have tz4 := h_rgv hz4
  clear hz3
  refine h_call (sp := false) (pc' := 354) (M := [(0, .ref 9), (1, .int z2), (2, .int z4)]) rfl rfl rfl rfl rfl rfl rfl rfl ?_
  refine w_88_9 _ I0 z2 _ hz2 z4 _ hz4 (fun r5 br5 hr5 s6 Is6 Gs6 => h_Kv ?_)
  have Zs6 : ∀ i, s6 0 i = s0 0 i := fun i => (Gs6 0 i rfl).trans rfl
  have Fs6 : h_F (fun _ _ => true) s6 s0 := fun _ _ h => by cases h
  have es6_0 : s6 64 1 = s0 64 1 := (Gs6 64 1 rfl).trans rfl
  have es6_1 : s6 98 11 = s0 98 11 := (Gs6 98 11 rfl).trans rfl
  have es6_2 : s6 64 4 = s0 64 4 := (Gs6 64 4 rfl).trans rfl
  have es6_3 : s6 98 16 = s0 98 16 := (Gs6 98 16 rfl).trans rfl
  have es6_4 : s6 10 9 = s0 10 9 := (Gs6 10 9 rfl).trans rfl
  have es6_5 : s6 98 2 = s0 98 2 := (Gs6 98 2 rfl).trans rfl
  clear hz2 hz4
  refine h_pop (pc' := 355) rfl rfl rfl ?_
  clear hr5
  refine h_aload_n (pc' := 356) rfl rfl rfl ?_
  refine h_aload_n (pc' := 357) rfl rfl rfl ?_
  refine h_iload_n (pc' := 358) rfl rfl rfl ?_
  refine h_iconst (pc' := 359) (x := (Int32.ofInt 1)) rfl rfl rfl ?_
  refine h_iadd (pc' := 360) rfl rfl hy3 ci_1 rfl (by omega) (by omega) (fun z7 hz7 => ?_)
  refine h_iald (pc' := 361) (v := s0 0 (b3 + 1)) rfl rfl rfl hz7 (by omega) (by omega) (Zs6 _) (fun z8 hz8 => ?_)
  have tz8 := h_rgv hz8
  clear hz7
  refine h_aload_n (pc' := 362) rfl rfl rfl ?_
  refine h_iload_n (pc' := 363) rfl rfl rfl ?_
  refine h_iconst (pc' := 364) (x := (Int32.ofInt 2)) rfl rfl rfl ?_
  refine h_iadd (pc' := 365) rfl rfl hy3 ci_2 rfl (by omega) (by omega) (fun z9 hz9 => ?_)
  refine h_iald (pc' := 366) (v := s0 0 (b3 + 2)) rfl rfl rfl hz9 (by omega) (by omega) (Zs6 _) (fun z10 hz10 => ?_)
  have tz10 := h_rgv hz10
  clear hz9
  refine h_call (sp := false) (pc' := 369) (M := [(0, .ref 98), (1, .int z8), (2, .int z10)]) rfl rfl rfl rfl rfl rfl rfl rfl ?_
  refine w_170_98 _ Is6 z8 _ hz8 z10 _ hz10 (fun r11 br11 hr11 s12 Is12 Gs12 => h_Kv ?_)
  have Zs12 : ∀ i, s12 0 i = s0 0 i := fun i => (Gs12 0 i rfl).trans (Zs6 i)
  have Fs12 : h_F (fun _ _ => true) s12 s0 := fun _ _ h => by cases h
  have es12_0 : s12 64 1 = s0 64 1 := (Gs12 64 1 rfl).trans es6_0
  have es12_1 : s12 98 11 = s0 98 11 := (Gs12 98 11 rfl).trans es6_1
  have es12_2 : s12 64 4 = s0 64 4 := (Gs12 64 4 rfl).trans es6_2
  have es12_3 : s12 98 16 = s0 98 16 := (Gs12 98 16 rfl).trans es6_3
  have es12_4 : s12 10 9 = s0 10 9 := (Gs12 10 9 rfl).trans es6_4
  have es12_5 : s12 98 2 = s0 98 2 := (Gs12 98 2 rfl).trans es6_5
  clear es6_0 es6_1 es6_2 es6_3 es6_4 es6_5
  clear hz10 hz8
  refine h_pop (pc' := 370) rfl rfl rfl ?_
  clear hr11
  refine h_goto (pc' := 1441) rfl rfl ?_
  exact kk _ Is12 (by first | exact d_tape.le j0 (Int.le_antisymm (by omega) (by omega)) (by omega) (fun j => (Gs12 65 j rfl).trans ((Gs6 65 j rfl))) (fun j => (Gs12 102 j rfl).trans ((Gs6 102 j rfl))) | (exfalso; omega)) (Int.le_antisymm (by omega) (by omega)) (c_R.fr (c_R.fr j2 I0 Gs6 rfl) Is6 Gs12 rfl) (g_ti.e j3 ((funext (fun j => Gs12 100 j rfl)).trans (funext (fun j => Gs6 100 j rfl)))) (g_SH.e j4 ((funext (fun j => Gs12 94 j rfl)).trans (funext (fun j => Gs6 94 j rfl))) ((funext (fun j => Gs12 95 j rfl)).trans (funext (fun j => Gs6 95 j rfl))) ((funext (fun j => Gs12 96 j rfl)).trans (funext (fun j => Gs6 96 j rfl))) ((funext (fun j => Gs12 111 j rfl)).trans (funext (fun j => Gs6 111 j rfl))) ((funext (fun j => Gs12 112 j rfl)).trans (funext (fun j => Gs6 112 j rfl))) ((funext (fun j => Gs12 113 j rfl)).trans (funext (fun j => Gs6 113 j rfl))))
