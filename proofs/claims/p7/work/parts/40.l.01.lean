set_option maxHeartbeats 100000000 in
theorem g_case_307 {ns : Nat} (hns : ns ≤ 320) (s0 : h_S) (I0 : h_I s0) (j0 : d_tape s0 s0) (j1 : s0 64 4 = s0 98 16) (j2 : c_R false s0) (j3 : g_ti s0) (y3 : Int32) (b3 : Int) (hy3 : y3.toInt = b3) (hr : 0 ≤ b3 ∧ b3 + 5 ≤ ns) {Q : Option Value → h_S → Prop} (kk : ∀ τ, h_I τ → (d_tape τ τ) → (τ 64 4 = τ 98 16) → (c_R false τ) → (g_ti τ) → h_T g_P (g_Y ns) 225 1441 [(0, .ref 0), (1, .ref 9), (2, .ref 98), (3, .int y3)] [] τ Q) : h_T g_P (g_Y ns) 225 307 [(0, .ref 0), (1, .ref 9), (2, .ref 98), (3, .int y3)] [] s0 Q := by
  have F0_ : h_F (fun _ _ => true) s0 s0 := h_F.rf
  have j0_ := j0.2
  have i0 := tf_64_1 I0
  have i1 := tf_98_11 I0
  have i2 := tf_64_4 I0
  have i3 := tf_98_16 I0
  have i4 := tf_10_8 I0
  have i5 := tf_98_1 I0
  have j2_ := j2.sz
  refine h_aload_n (pc' := 308) rfl rfl rfl ?_
  refine h_aload_n (pc' := 309) rfl rfl rfl ?_
  refine h_iload_n (pc' := 310) rfl rfl rfl ?_
  refine h_iconst (pc' := 311) (x := (Int32.ofInt 1)) rfl rfl rfl ?_
  refine h_iadd (pc' := 312) rfl rfl hy3 ci_1 rfl (by omega) (by omega) (fun z1 hz1 => ?_)
  refine h_iald (pc' := 313) (v := s0 0 (b3 + 1)) rfl rfl rfl hz1 (by omega) (by omega) rfl (fun z2 hz2 => ?_)
  have tz2 := h_rgv hz2
  clear hz1
  refine h_aload_n (pc' := 314) rfl rfl rfl ?_
  refine h_iload_n (pc' := 315) rfl rfl rfl ?_
  refine h_iconst (pc' := 316) (x := (Int32.ofInt 2)) rfl rfl rfl ?_
  refine h_iadd (pc' := 317) rfl rfl hy3 ci_2 rfl (by omega) (by omega) (fun z3 hz3 => ?_)
  refine h_iald (pc' := 318) (v := s0 0 (b3 + 2)) rfl rfl rfl hz3 (by omega) (by omega) rfl (fun z4 hz4 => ?_)
  have tz4 := h_rgv hz4
  clear hz3
  refine h_call (sp := false) (pc' := 321) (M := [(0, .ref 9), (1, .int z2), (2, .int z4)]) rfl rfl rfl rfl rfl rfl rfl rfl ?_
  refine h_aload_n (pc' := 1) rfl rfl rfl ?_
  refine h_getR (pc' := 4) rfl rfl rfl rfl rfl ?_
  refine h_iload_n (pc' := 5) rfl rfl rfl ?_
  refine h_call (sp := false) (pc' := 8) (M := [(0, .ref 10), (1, .int z2)]) rfl rfl rfl rfl rfl rfl rfl rfl ?_
  refine h_iload_n (pc' := 1) rfl rfl rfl ?_
  refine h_zlt (tg := 16) (pc' := 4) rfl rfl rfl hz2 (fun c5 => ?_) (fun c5 => ?_)
  · refine h_iconst (pc' := 17) (x := (Int32.ofInt 0)) rfl rfl rfl ?_
    refine h_zret rfl rfl ci_0 (by omega) (h_Kv ?_)
    refine h_zne (tg := 13) (pc' := 11) rfl rfl rfl ci_0 (fun c6 => absurd (Int.le_antisymm (by omega) (by omega)) c6) (fun c6 => ?_)
    refine h_iconst (pc' := 12) (x := (Int32.ofInt (-1))) rfl rfl rfl ?_
    refine h_iret rfl rfl (h_Kv ?_)
    clear hz2 hz4
    refine h_aload_n (pc' := 322) rfl rfl rfl ?_
    refine h_aload_n (pc' := 323) rfl rfl rfl ?_
    refine h_iload_n (pc' := 324) rfl rfl rfl ?_
    refine h_iconst (pc' := 325) (x := (Int32.ofInt 1)) rfl rfl rfl ?_
    refine h_iadd (pc' := 326) rfl rfl hy3 ci_1 rfl (by omega) (by omega) (fun z7 hz7 => ?_)
    refine h_iald (pc' := 327) (v := s0 0 (b3 + 1)) rfl rfl rfl hz7 (by omega) (by omega) rfl (fun z8 hz8 => ?_)
    have tz8 := h_rgv hz8
    clear hz7
    refine h_aload_n (pc' := 328) rfl rfl rfl ?_
    refine h_iload_n (pc' := 329) rfl rfl rfl ?_
    refine h_iconst (pc' := 330) (x := (Int32.ofInt 2)) rfl rfl rfl ?_
    refine h_iadd (pc' := 331) rfl rfl hy3 ci_2 rfl (by omega) (by omega) (fun z9 hz9 => ?_)
    refine h_iald (pc' := 332) (v := s0 0 (b3 + 2)) rfl rfl rfl hz9 (by omega) (by omega) rfl (fun z10 hz10 => ?_)
    have tz10 := h_rgv hz10
    clear hz9
    refine h_call (sp := false) (pc' := 335) (M := [(0, .ref 98), (1, .int z8), (2, .int z10)]) rfl rfl rfl rfl rfl rfl rfl rfl ?_
    refine h_aload_n (pc' := 1) rfl rfl rfl ?_
    refine h_iload_n (pc' := 2) rfl rfl rfl ?_
    refine h_call (sp := false) (pc' := 5) (M := [(0, .ref 98), (1, .int z8)]) rfl rfl rfl rfl rfl rfl rfl rfl ?_
    refine h_iload_n (pc' := 1) rfl rfl rfl ?_
    refine h_i2l (pc' := 2) rfl rfl hz8 (fun z11 hz11 => ?_)
    refine h_lconst (pc' := 3) (x := (Int64.ofInt 0)) rfl rfl rfl ?_
    refine h_aload_n (pc' := 4) rfl rfl rfl ?_
    refine h_getI (pc' := 7) (v := s0 98 1) rfl rfl rfl rfl rfl rfl (fun z12 hz12 => ?_)
    have tz12 := tf_98_1 I0
    refine h_iconst (pc' := 8) (x := (Int32.ofInt 1)) rfl rfl rfl ?_
    refine h_isub (pc' := 9) rfl rfl hz12 ci_1 rfl (by omega) (by omega) (fun z13 hz13 => ?_)
    clear hz12
    refine h_i2l (pc' := 10) rfl rfl hz13 (fun z14 hz14 => ?_)
    clear hz13
    refine h_calls (pc' := 13) (M := [(0, .long z11), (2, .long (Int64.ofInt 0)), (4, .long z14)]) rfl rfl rfl rfl rfl rfl ?_
    refine h_lload_n (pc' := 1) rfl rfl rfl ?_
    refine h_lload_n (pc' := 2) rfl rfl rfl ?_
    refine h_lcmp (pc' := 3) rfl rfl hz11 cl_0 (fun z15 hz15 => ?_)
    refine h_zlt (tg := 17) (pc' := 6) rfl rfl rfl rfl (fun c16 => ?_) (fun c16 => absurd c16 (by omega))
    replace c16 := (h_lcr hz15).1 c16
    clear hz15
    refine h_iconst (pc' := 18) (x := (Int32.ofInt 0)) rfl rfl rfl ?_
    refine h_zret rfl rfl ci_0 (by omega) (h_Kv ?_)
    clear hz11 hz14
    refine h_zret rfl rfl ci_0 (by omega) (h_Kv ?_)
    refine h_zne (tg := 10) (pc' := 8) rfl rfl rfl ci_0 (fun c17 => absurd (Int.le_antisymm (by omega) (by omega)) c17) (fun c17 => ?_)
    refine h_iconst (pc' := 9) (x := (Int32.ofInt (-1))) rfl rfl rfl ?_
    refine h_iret rfl rfl (h_Kv ?_)
    clear hz10 hz8
    refine h_ceq (tg := 1441) (pc' := 338) rfl rfl rfl ci_m1 ci_m1 (fun c18 => ?_) (fun c18 => absurd (Int.le_antisymm (by omega) (by omega)) c18)
    exact kk _ I0 (by first | exact d_tape.le j0 (Int.le_antisymm (by omega) (by omega)) (by omega) (fun j => rfl) (fun j => rfl) | (exfalso; omega)) (Int.le_antisymm (by omega) (by omega)) j2 (g_ti.e j3 rfl)
  · refine h_iload_n (pc' := 5) rfl rfl rfl ?_
    refine h_aload_n (pc' := 6) rfl rfl rfl ?_
    refine h_getI (pc' := 9) (v := s0 10 8) rfl rfl rfl rfl rfl rfl (fun z19 hz19 => ?_)
    have tz19 := tf_10_8 I0
    refine h_cge (tg := 16) (pc' := 12) rfl rfl rfl hz2 hz19 (fun c20 => ?_) (fun c20 => ?_)
    · clear hz19
      refine h_iconst (pc' := 17) (x := (Int32.ofInt 0)) rfl rfl rfl ?_
      refine h_zret rfl rfl ci_0 (by omega) (h_Kv ?_)
      refine h_zne (tg := 13) (pc' := 11) rfl rfl rfl ci_0 (fun c21 => absurd (Int.le_antisymm (by omega) (by omega)) c21) (fun c21 => ?_)
      refine h_iconst (pc' := 12) (x := (Int32.ofInt (-1))) rfl rfl rfl ?_
      refine h_iret rfl rfl (h_Kv ?_)
      clear hz2 hz4
      refine h_aload_n (pc' := 322) rfl rfl rfl ?_
      refine h_aload_n (pc' := 323) rfl rfl rfl ?_
      refine h_iload_n (pc' := 324) rfl rfl rfl ?_
      refine h_iconst (pc' := 325) (x := (Int32.ofInt 1)) rfl rfl rfl ?_
      refine h_iadd (pc' := 326) rfl rfl hy3 ci_1 rfl (by omega) (by omega) (fun z22 hz22 => ?_)
      refine h_iald (pc' := 327) (v := s0 0 (b3 + 1)) rfl rfl rfl hz22 (by omega) (by omega) rfl (fun z23 hz23 => ?_)
      have tz23 := h_rgv hz23
      clear hz22
      refine h_aload_n (pc' := 328) rfl rfl rfl ?_
      refine h_iload_n (pc' := 329) rfl rfl rfl ?_
      refine h_iconst (pc' := 330) (x := (Int32.ofInt 2)) rfl rfl rfl ?_
      refine h_iadd (pc' := 331) rfl rfl hy3 ci_2 rfl (by omega) (by omega) (fun z24 hz24 => ?_)
      refine h_iald (pc' := 332) (v := s0 0 (b3 + 2)) rfl rfl rfl hz24 (by omega) (by omega) rfl (fun z25 hz25 => ?_)
      have tz25 := h_rgv hz25
      clear hz24
      refine h_call (sp := false) (pc' := 335) (M := [(0, .ref 98), (1, .int z23), (2, .int z25)]) rfl rfl rfl rfl rfl rfl rfl rfl ?_
      refine h_aload_n (pc' := 1) rfl rfl rfl ?_
      refine h_iload_n (pc' := 2) rfl rfl rfl ?_
      refine h_call (sp := false) (pc' := 5) (M := [(0, .ref 98), (1, .int z23)]) rfl rfl rfl rfl rfl rfl rfl rfl ?_
      refine h_iload_n (pc' := 1) rfl rfl rfl ?_
      refine h_i2l (pc' := 2) rfl rfl hz23 (fun z26 hz26 => ?_)
      refine h_lconst (pc' := 3) (x := (Int64.ofInt 0)) rfl rfl rfl ?_
      refine h_aload_n (pc' := 4) rfl rfl rfl ?_
      refine h_getI (pc' := 7) (v := s0 98 1) rfl rfl rfl rfl rfl rfl (fun z27 hz27 => ?_)
      have tz27 := tf_98_1 I0
      refine h_iconst (pc' := 8) (x := (Int32.ofInt 1)) rfl rfl rfl ?_
      refine h_isub (pc' := 9) rfl rfl hz27 ci_1 rfl (by omega) (by omega) (fun z28 hz28 => ?_)
      clear hz27
      refine h_i2l (pc' := 10) rfl rfl hz28 (fun z29 hz29 => ?_)
      clear hz28
      refine h_calls (pc' := 13) (M := [(0, .long z26), (2, .long (Int64.ofInt 0)), (4, .long z29)]) rfl rfl rfl rfl rfl rfl ?_
      refine h_lload_n (pc' := 1) rfl rfl rfl ?_
      refine h_lload_n (pc' := 2) rfl rfl rfl ?_
      refine h_lcmp (pc' := 3) rfl rfl hz26 cl_0 (fun z30 hz30 => ?_)
      refine h_zlt (tg := 17) (pc' := 6) rfl rfl rfl rfl (fun c31 => absurd c31 (by omega)) (fun c31 => ?_)
      replace c31 := (h_lcr hz30).2.1 c31
      clear hz30
      refine h_lload_n (pc' := 7) rfl rfl rfl ?_
      refine h_lload (pc' := 9) rfl rfl rfl ?_
      refine h_lcmp (pc' := 10) rfl rfl hz26 hz29 (fun z32 hz32 => ?_)
      refine h_zgt (tg := 17) (pc' := 13) rfl rfl rfl rfl (fun c33 => ?_) (fun c33 => absurd c33 (by omega))
      replace c33 := (h_lcr hz32).2.2.2.1 c33
      clear hz32
      refine h_iconst (pc' := 18) (x := (Int32.ofInt 0)) rfl rfl rfl ?_
      refine h_zret rfl rfl ci_0 (by omega) (h_Kv ?_)
      clear hz26 hz29
      refine h_zret rfl rfl ci_0 (by omega) (h_Kv ?_)
      refine h_zne (tg := 10) (pc' := 8) rfl rfl rfl ci_0 (fun c34 => absurd (Int.le_antisymm (by omega) (by omega)) c34) (fun c34 => ?_)
      refine h_iconst (pc' := 9) (x := (Int32.ofInt (-1))) rfl rfl rfl ?_
      refine h_iret rfl rfl (h_Kv ?_)
      clear hz23 hz25
      refine h_ceq (tg := 1441) (pc' := 338) rfl rfl rfl ci_m1 ci_m1 (fun c35 => ?_) (fun c35 => absurd (Int.le_antisymm (by omega) (by omega)) c35)
      exact kk _ I0 (by first | exact d_tape.le j0 (Int.le_antisymm (by omega) (by omega)) (by omega) (fun j => rfl) (fun j => rfl) | (exfalso; omega)) (Int.le_antisymm (by omega) (by omega)) j2 (g_ti.e j3 rfl)
    · clear hz19
      refine h_iconst (pc' := 13) (x := (Int32.ofInt 1)) rfl rfl rfl ?_
      refine h_goto (pc' := 17) rfl rfl ?_
      refine h_zret rfl rfl ci_1 (by omega) (h_Kv ?_)
      refine h_zne (tg := 13) (pc' := 11) rfl rfl rfl ci_1 (fun c36 => ?_) (fun c36 => absurd c36 (by omega))
      refine h_iload_n (pc' := 14) rfl rfl rfl ?_
      refine h_tsw (dt := 110) (ts := [48, 58, 68, 81, 90]) rfl rfl rfl rfl hz4 (fun c37 => ?_) ⟨fun c37 => ?_, fun c37 => ?_, fun c37 => ?_, fun c37 => ?_, fun c37 => ?_, trivial⟩
      · refine h_iconst (pc' := 111) (x := (Int32.ofInt (-1))) rfl rfl rfl ?_
        refine h_iret rfl rfl (h_Kv ?_)
        clear hz2 hz4
        refine h_aload_n (pc' := 322) rfl rfl rfl ?_
        refine h_aload_n (pc' := 323) rfl rfl rfl ?_
        refine h_iload_n (pc' := 324) rfl rfl rfl ?_
        refine h_iconst (pc' := 325) (x := (Int32.ofInt 1)) rfl rfl rfl ?_
        refine h_iadd (pc' := 326) rfl rfl hy3 ci_1 rfl (by omega) (by omega) (fun z38 hz38 => ?_)
        refine h_iald (pc' := 327) (v := s0 0 (b3 + 1)) rfl rfl rfl hz38 (by omega) (by omega) rfl (fun z39 hz39 => ?_)
        have tz39 := h_rgv hz39
        clear hz38
        refine h_aload_n (pc' := 328) rfl rfl rfl ?_
        refine h_iload_n (pc' := 329) rfl rfl rfl ?_
        refine h_iconst (pc' := 330) (x := (Int32.ofInt 2)) rfl rfl rfl ?_
        refine h_iadd (pc' := 331) rfl rfl hy3 ci_2 rfl (by omega) (by omega) (fun z40 hz40 => ?_)
        refine h_iald (pc' := 332) (v := s0 0 (b3 + 2)) rfl rfl rfl hz40 (by omega) (by omega) rfl (fun z41 hz41 => ?_)
        have tz41 := h_rgv hz41
        clear hz40
        refine h_call (sp := false) (pc' := 335) (M := [(0, .ref 98), (1, .int z39), (2, .int z41)]) rfl rfl rfl rfl rfl rfl rfl rfl ?_
        refine h_aload_n (pc' := 1) rfl rfl rfl ?_
        refine h_iload_n (pc' := 2) rfl rfl rfl ?_
        refine h_call (sp := false) (pc' := 5) (M := [(0, .ref 98), (1, .int z39)]) rfl rfl rfl rfl rfl rfl rfl rfl ?_
        refine h_iload_n (pc' := 1) rfl rfl rfl ?_
        refine h_i2l (pc' := 2) rfl rfl hz39 (fun z42 hz42 => ?_)
        refine h_lconst (pc' := 3) (x := (Int64.ofInt 0)) rfl rfl rfl ?_
        refine h_aload_n (pc' := 4) rfl rfl rfl ?_
        refine h_getI (pc' := 7) (v := s0 98 1) rfl rfl rfl rfl rfl rfl (fun z43 hz43 => ?_)
        have tz43 := tf_98_1 I0
        refine h_iconst (pc' := 8) (x := (Int32.ofInt 1)) rfl rfl rfl ?_
        refine h_isub (pc' := 9) rfl rfl hz43 ci_1 rfl (by omega) (by omega) (fun z44 hz44 => ?_)
        clear hz43
        refine h_i2l (pc' := 10) rfl rfl hz44 (fun z45 hz45 => ?_)
        clear hz44
        refine h_calls (pc' := 13) (M := [(0, .long z42), (2, .long (Int64.ofInt 0)), (4, .long z45)]) rfl rfl rfl rfl rfl rfl ?_
        refine h_lload_n (pc' := 1) rfl rfl rfl ?_
        refine h_lload_n (pc' := 2) rfl rfl rfl ?_
        refine h_lcmp (pc' := 3) rfl rfl hz42 cl_0 (fun z46 hz46 => ?_)
        refine h_zlt (tg := 17) (pc' := 6) rfl rfl rfl rfl (fun c47 => absurd c47 (by omega)) (fun c47 => ?_)
        replace c47 := (h_lcr hz46).2.1 c47
        clear hz46
        refine h_lload_n (pc' := 7) rfl rfl rfl ?_
        refine h_lload (pc' := 9) rfl rfl rfl ?_
        refine h_lcmp (pc' := 10) rfl rfl hz42 hz45 (fun z48 hz48 => ?_)
        refine h_zgt (tg := 17) (pc' := 13) rfl rfl rfl rfl (fun c49 => absurd c49 (by omega)) (fun c49 => ?_)
        replace c49 := (h_lcr hz48).2.2.1 c49
        clear hz48
        refine h_iconst (pc' := 14) (x := (Int32.ofInt 1)) rfl rfl rfl ?_
        refine h_goto (pc' := 18) rfl rfl ?_
        refine h_zret rfl rfl ci_1 (by omega) (h_Kv ?_)
        clear hz42 hz45
        refine h_zret rfl rfl ci_1 (by omega) (h_Kv ?_)
        refine h_zne (tg := 10) (pc' := 8) rfl rfl rfl ci_1 (fun c50 => ?_) (fun c50 => absurd c50 (by omega))
        refine h_aload_n (pc' := 11) rfl rfl rfl ?_
        refine h_iconst (pc' := 12) (x := (Int32.ofInt 0)) rfl rfl rfl ?_
        refine h_call (sp := false) (pc' := 15) (M := [(0, .ref 98), (1, .int (Int32.ofInt 0))]) rfl rfl rfl rfl rfl rfl rfl rfl ?_
        refine n_lays _ I0  (fun s52 Is52 Gs52 ps52_0 => h_Kn ?_)
        have Zs52 : ∀ i, s52 0 i = s0 0 i := fun i => (Gs52 0 i rfl).trans rfl
        have Fs52 : h_F (fun _ _ => true) s52 s0 := fun _ _ h => by cases h
        have es52_0 : s52 64 1 = s0 64 1 := (Gs52 64 1 rfl).trans rfl
        have es52_1 : s52 98 11 = s0 98 11 := (Gs52 98 11 rfl).trans rfl
        have es52_2 : s52 64 4 = s0 64 4 := (Gs52 64 4 rfl).trans rfl
        have es52_3 : s52 98 16 = s0 98 16 := (Gs52 98 16 rfl).trans rfl
        have es52_4 : s52 10 8 = s0 10 8 := (Gs52 10 8 rfl).trans rfl
        have es52_5 : s52 98 1 = s0 98 1 := (Gs52 98 1 rfl).trans rfl
        refine h_iload_n (pc' := 16) rfl rfl rfl ?_
        refine h_tsw (dt := 96) (ts := [52, 59, 72, 84, 90]) rfl rfl rfl rfl hz41 (fun c53 => ?_) ⟨fun c53 => ?_, fun c53 => ?_, fun c53 => ?_, fun c53 => ?_, fun c53 => ?_, trivial⟩
        · refine h_iconst (pc' := 97) (x := (Int32.ofInt (-1))) rfl rfl rfl ?_
          refine h_iret rfl rfl (h_Kv ?_)
          clear hz39 hz41
          refine h_ceq (tg := 1441) (pc' := 338) rfl rfl rfl ci_m1 ci_m1 (fun c54 => ?_) (fun c54 => absurd (Int.le_antisymm (by omega) (by omega)) c54)
          exact kk _ Is52 (by first | exact d_tape.le j0 (Int.le_antisymm (by omega) (by omega)) (by omega) (fun j => (Gs52 65 j rfl)) (fun j => (Gs52 102 j rfl)) | (exfalso; omega)) (Int.le_antisymm (by omega) (by omega)) (c_R.fr j2 I0 Gs52 rfl) (g_ti.e j3 (funext (fun j => Gs52 100 j rfl)))
        · refine h_aload_n (pc' := 53) rfl rfl rfl ?_
          refine h_getR (pc' := 56) rfl rfl rfl rfl rfl ?_
          refine h_iload_n (pc' := 57) rfl rfl rfl ?_
          refine h_iald (pc' := 58) (v := s52 99 (s0 0 (b3 + 1))) rfl rfl rfl hz39 (by omega) (by omega) rfl (fun z55 hz55 => ?_)
          have tz55 := ty_99_0 Is52 (s0 0 (b3 + 1)) (by omega)
          refine h_iret rfl rfl (h_Kv ?_)
          clear hz39 hz41
          refine h_ceq (tg := 1441) (pc' := 338) rfl rfl rfl ci_m1 hz55 (fun c56 => absurd c56 (by omega)) (fun c56 => ?_)
          clear hz55
          refine h_iconst (pc' := 339) (x := (Int32.ofInt 0)) rfl rfl rfl ?_
          first | have gp := j2.ps (j := s0 0 (b3 + 1)) (by omega) (by omega) | skip
          have gw := ty_11 I0 (s0 0 (b3 + 1))
          first | have gt := j3 (s0 99 (s0 0 (b3 + 1))) (by omega) (by omega) | skip
          first | have gv := g_tie_v (k := s0 99 (s0 0 (b3 + 1))) (by omega) (by omega) | skip
          have g1 : s52 99 (s0 0 (b3 + 1)) = s0 99 (s0 0 (b3 + 1)) := congrFun (funext (fun j => Gs52 99 j rfl)) _
          have g2 : s52 99 (6 + (s0 0 (b3 + 1))) = s0 99 (6 + (s0 0 (b3 + 1))) := congrFun (funext (fun j => Gs52 99 j rfl)) _
          have g3 : s52 100 (s52 99 (s0 0 (b3 + 1))) = s0 100 (s0 99 (s0 0 (b3 + 1))) := (congrFun (funext (fun j => Gs52 100 j rfl)) _).trans (congrArg (s0 100) (congrFun (funext (fun j => Gs52 99 j rfl)) _))
          exfalso
          omega
        · refine h_aload_n (pc' := 60) rfl rfl rfl ?_
          refine h_getR (pc' := 63) rfl rfl rfl rfl rfl ?_
          refine h_bipush (pc' := 65) (x := (Int32.ofInt 6)) rfl rfl cb_6 ?_
          refine h_iload_n (pc' := 66) rfl rfl rfl ?_
          refine h_iadd (pc' := 67) rfl rfl ci_6 hz39 rfl (by have g0 := h_rgv hz39; omega) (by have g0 := h_rgv hz39; omega) (fun z57 hz57 => ?_)
          refine h_iald (pc' := 68) (v := s52 99 (6 + (s0 0 (b3 + 1)))) rfl rfl rfl hz57 (by omega) (by omega) rfl (fun z58 hz58 => ?_)
          have tz58 := ty_99_1 Is52 (6 + (s0 0 (b3 + 1))) (by omega)
          clear hz57
          refine h_calls (pc' := 71) (M := [(0, .int z58)]) rfl rfl rfl rfl rfl rfl ?_
          refine h_iload_n (pc' := 1) rfl rfl rfl ?_
          refine h_zne (tg := 9) (pc' := 4) rfl rfl rfl hz58 (fun c59 => ?_) (fun c59 => ?_)
          · refine h_iload_n (pc' := 10) rfl rfl rfl ?_
            refine h_iconst (pc' := 11) (x := (Int32.ofInt 1)) rfl rfl rfl ?_
            refine h_isub (pc' := 12) rfl rfl hz58 ci_1 rfl (by omega) (by omega) (fun z60 hz60 => ?_)
            refine h_iret rfl rfl (h_Kv ?_)
            clear hz58
            refine h_iret rfl rfl (h_Kv ?_)
            clear hz39 hz41
            refine h_ceq (tg := 1441) (pc' := 338) rfl rfl rfl ci_m1 hz60 (fun c61 => absurd c61 (by omega)) (fun c61 => ?_)
            clear hz60
            refine h_iconst (pc' := 339) (x := (Int32.ofInt 0)) rfl rfl rfl ?_
            first | have gp := j2.ps (j := s0 0 (b3 + 1)) (by omega) (by omega) | skip
            have gw := ty_11 I0 (s0 0 (b3 + 1))
            first | have gt := j3 (s0 99 (s0 0 (b3 + 1))) (by omega) (by omega) | skip
            first | have gv := g_tie_v (k := s0 99 (s0 0 (b3 + 1))) (by omega) (by omega) | skip
            have g1 : s52 99 (s0 0 (b3 + 1)) = s0 99 (s0 0 (b3 + 1)) := congrFun (funext (fun j => Gs52 99 j rfl)) _
            have g2 : s52 99 (6 + (s0 0 (b3 + 1))) = s0 99 (6 + (s0 0 (b3 + 1))) := congrFun (funext (fun j => Gs52 99 j rfl)) _
            have g3 : s52 100 (s52 99 (s0 0 (b3 + 1))) = s0 100 (s0 99 (s0 0 (b3 + 1))) := (congrFun (funext (fun j => Gs52 100 j rfl)) _).trans (congrArg (s0 100) (congrFun (funext (fun j => Gs52 99 j rfl)) _))
            exfalso
            omega
          · refine h_bipush (pc' := 6) (x := (Int32.ofInt (-4))) rfl rfl cb_m4 ?_
            refine h_goto (pc' := 12) rfl rfl ?_
            refine h_iret rfl rfl (h_Kv ?_)
            clear hz58
            refine h_iret rfl rfl (h_Kv ?_)
            clear hz39 hz41
            refine h_ceq (tg := 1441) (pc' := 338) rfl rfl rfl ci_m1 ci_m4 (fun c62 => absurd c62 (by omega)) (fun c62 => ?_)
            refine h_iconst (pc' := 339) (x := (Int32.ofInt 0)) rfl rfl rfl ?_
            first | have gp := j2.ps (j := s0 0 (b3 + 1)) (by omega) (by omega) | skip
            have gw := ty_11 I0 (s0 0 (b3 + 1))
            first | have gt := j3 (s0 99 (s0 0 (b3 + 1))) (by omega) (by omega) | skip
            first | have gv := g_tie_v (k := s0 99 (s0 0 (b3 + 1))) (by omega) (by omega) | skip
            have g1 : s52 99 (s0 0 (b3 + 1)) = s0 99 (s0 0 (b3 + 1)) := congrFun (funext (fun j => Gs52 99 j rfl)) _
            have g2 : s52 99 (6 + (s0 0 (b3 + 1))) = s0 99 (6 + (s0 0 (b3 + 1))) := congrFun (funext (fun j => Gs52 99 j rfl)) _
            have g3 : s52 100 (s52 99 (s0 0 (b3 + 1))) = s0 100 (s0 99 (s0 0 (b3 + 1))) := (congrFun (funext (fun j => Gs52 100 j rfl)) _).trans (congrArg (s0 100) (congrFun (funext (fun j => Gs52 99 j rfl)) _))
            exfalso
            omega
        · refine h_aload_n (pc' := 73) rfl rfl rfl ?_
          refine h_getR (pc' := 76) rfl rfl rfl rfl rfl ?_
          refine h_aload_n (pc' := 77) rfl rfl rfl ?_
          refine h_getR (pc' := 80) rfl rfl rfl rfl rfl ?_
          refine h_iload_n (pc' := 81) rfl rfl rfl ?_
          refine h_iald (pc' := 82) (v := s52 99 (s0 0 (b3 + 1))) rfl rfl rfl hz39 (by omega) (by omega) rfl (fun z63 hz63 => ?_)
          have tz63 := ty_99_0 Is52 (s0 0 (b3 + 1)) (by omega)
          refine h_iald (pc' := 83) (v := s52 100 (s52 99 (s0 0 (b3 + 1)))) rfl rfl rfl hz63 (by omega) (by omega) rfl (fun z64 hz64 => ?_)
          have tz64 := ty_100 Is52 (s52 99 (s0 0 (b3 + 1)))
          clear hz63
          refine h_iret rfl rfl (h_Kv ?_)
          clear hz39 hz41
          refine h_ceq (tg := 1441) (pc' := 338) rfl rfl rfl ci_m1 hz64 (fun c65 => absurd c65 (by omega)) (fun c65 => ?_)
          clear hz64
          refine h_iconst (pc' := 339) (x := (Int32.ofInt 0)) rfl rfl rfl ?_
          first | have gp := j2.ps (j := s0 0 (b3 + 1)) (by omega) (by omega) | skip
          have gw := ty_11 I0 (s0 0 (b3 + 1))
          first | have gt := j3 (s0 99 (s0 0 (b3 + 1))) (by omega) (by omega) | skip
          first | have gv := g_tie_v (k := s0 99 (s0 0 (b3 + 1))) (by omega) (by omega) | skip
          have g1 : s52 99 (s0 0 (b3 + 1)) = s0 99 (s0 0 (b3 + 1)) := congrFun (funext (fun j => Gs52 99 j rfl)) _
          have g2 : s52 99 (6 + (s0 0 (b3 + 1))) = s0 99 (6 + (s0 0 (b3 + 1))) := congrFun (funext (fun j => Gs52 99 j rfl)) _
          have g3 : s52 100 (s52 99 (s0 0 (b3 + 1))) = s0 100 (s0 99 (s0 0 (b3 + 1))) := (congrFun (funext (fun j => Gs52 100 j rfl)) _).trans (congrArg (s0 100) (congrFun (funext (fun j => Gs52 99 j rfl)) _))
          exfalso
          omega
        · refine h_aload_n (pc' := 85) rfl rfl rfl ?_
          refine h_iload_n (pc' := 86) rfl rfl rfl ?_
          refine h_call (sp := false) (pc' := 89) (M := [(0, .ref 98), (1, .int z39)]) rfl rfl rfl rfl rfl rfl rfl rfl ?_
          refine n_chM _ Is52 z39 _ hz39 (by omega) (fun r66 br66 hr66 ps67_0 => h_Kv ?_)
          have kr66 := hr66
          refine h_iret rfl rfl (h_Kv ?_)
          clear hz39 hz41
          refine h_ceq (tg := 1441) (pc' := 338) rfl rfl rfl ci_m1 hr66 (fun c68 => ?_) (fun c68 => ?_)
          · clear hr66
            exact kk _ Is52 (by first | exact d_tape.le j0 (Int.le_antisymm (by omega) (by omega)) (by omega) (fun j => (Gs52 65 j rfl)) (fun j => (Gs52 102 j rfl)) | (exfalso; omega)) (Int.le_antisymm (by omega) (by omega)) (c_R.fr j2 I0 Gs52 rfl) (g_ti.e j3 (funext (fun j => Gs52 100 j rfl)))
          · clear hr66
            refine h_iconst (pc' := 339) (x := (Int32.ofInt 0)) rfl rfl rfl ?_
            first | have gp := j2.ps (j := s0 0 (b3 + 1)) (by omega) (by omega) | skip
            have gw := ty_11 I0 (s0 0 (b3 + 1))
            first | have gt := j3 (s0 99 (s0 0 (b3 + 1))) (by omega) (by omega) | skip
            first | have gv := g_tie_v (k := s0 99 (s0 0 (b3 + 1))) (by omega) (by omega) | skip
            have g1 : s52 99 (s0 0 (b3 + 1)) = s0 99 (s0 0 (b3 + 1)) := congrFun (funext (fun j => Gs52 99 j rfl)) _
            have g2 : s52 99 (6 + (s0 0 (b3 + 1))) = s0 99 (6 + (s0 0 (b3 + 1))) := congrFun (funext (fun j => Gs52 99 j rfl)) _
            have g3 : s52 100 (s52 99 (s0 0 (b3 + 1))) = s0 100 (s0 99 (s0 0 (b3 + 1))) := (congrFun (funext (fun j => Gs52 100 j rfl)) _).trans (congrArg (s0 100) (congrFun (funext (fun j => Gs52 99 j rfl)) _))
            exfalso
            omega
        · refine h_aload_n (pc' := 91) rfl rfl rfl ?_
          refine h_iload_n (pc' := 92) rfl rfl rfl ?_
          refine h_call (sp := false) (pc' := 95) (M := [(0, .ref 98), (1, .int z39)]) rfl rfl rfl rfl rfl rfl rfl rfl ?_
          refine n_liM _ Is52 z39 _ hz39 (by omega) (fun r69 br69 hr69 ps70_0 => h_Kv ?_)
          have kr69 := hr69
          refine h_iret rfl rfl (h_Kv ?_)
          clear hz39 hz41
          refine h_ceq (tg := 1441) (pc' := 338) rfl rfl rfl ci_m1 hr69 (fun c71 => ?_) (fun c71 => ?_)
          · clear hr69
            exact kk _ Is52 (by first | exact d_tape.le j0 (Int.le_antisymm (by omega) (by omega)) (by omega) (fun j => (Gs52 65 j rfl)) (fun j => (Gs52 102 j rfl)) | (exfalso; omega)) (Int.le_antisymm (by omega) (by omega)) (c_R.fr j2 I0 Gs52 rfl) (g_ti.e j3 (funext (fun j => Gs52 100 j rfl)))
          · clear hr69
            refine h_iconst (pc' := 339) (x := (Int32.ofInt 0)) rfl rfl rfl ?_
            first | have gp := j2.ps (j := s0 0 (b3 + 1)) (by omega) (by omega) | skip
            have gw := ty_11 I0 (s0 0 (b3 + 1))
            first | have gt := j3 (s0 99 (s0 0 (b3 + 1))) (by omega) (by omega) | skip
            first | have gv := g_tie_v (k := s0 99 (s0 0 (b3 + 1))) (by omega) (by omega) | skip
            have g1 : s52 99 (s0 0 (b3 + 1)) = s0 99 (s0 0 (b3 + 1)) := congrFun (funext (fun j => Gs52 99 j rfl)) _
            have g2 : s52 99 (6 + (s0 0 (b3 + 1))) = s0 99 (6 + (s0 0 (b3 + 1))) := congrFun (funext (fun j => Gs52 99 j rfl)) _
            have g3 : s52 100 (s52 99 (s0 0 (b3 + 1))) = s0 100 (s0 99 (s0 0 (b3 + 1))) := (congrFun (funext (fun j => Gs52 100 j rfl)) _).trans (congrArg (s0 100) (congrFun (funext (fun j => Gs52 99 j rfl)) _))
            exfalso
            omega
      · refine h_aload_n (pc' := 49) rfl rfl rfl ?_
        refine h_getR (pc' := 52) rfl rfl rfl rfl rfl ?_
        refine h_getR (pc' := 55) rfl rfl rfl rfl rfl ?_
        refine h_iload_n (pc' := 56) rfl rfl rfl ?_
        refine h_iald (pc' := 57) (v := s0 11 (s0 0 (b3 + 1))) rfl rfl rfl hz2 (by omega) (by omega) rfl (fun z72 hz72 => ?_)
        have tz72 := ty_11 I0 (s0 0 (b3 + 1))
        refine h_iret rfl rfl (h_Kv ?_)
        clear hz2 hz4
        refine h_aload_n (pc' := 322) rfl rfl rfl ?_
        refine h_aload_n (pc' := 323) rfl rfl rfl ?_
        refine h_iload_n (pc' := 324) rfl rfl rfl ?_
        refine h_iconst (pc' := 325) (x := (Int32.ofInt 1)) rfl rfl rfl ?_
        refine h_iadd (pc' := 326) rfl rfl hy3 ci_1 rfl (by omega) (by omega) (fun z73 hz73 => ?_)
        refine h_iald (pc' := 327) (v := s0 0 (b3 + 1)) rfl rfl rfl hz73 (by omega) (by omega) rfl (fun z74 hz74 => ?_)
        have tz74 := h_rgv hz74
        clear hz73
        refine h_aload_n (pc' := 328) rfl rfl rfl ?_
        refine h_iload_n (pc' := 329) rfl rfl rfl ?_
        refine h_iconst (pc' := 330) (x := (Int32.ofInt 2)) rfl rfl rfl ?_
        refine h_iadd (pc' := 331) rfl rfl hy3 ci_2 rfl (by omega) (by omega) (fun z75 hz75 => ?_)
        refine h_iald (pc' := 332) (v := s0 0 (b3 + 2)) rfl rfl rfl hz75 (by omega) (by omega) rfl (fun z76 hz76 => ?_)
        have tz76 := h_rgv hz76
        clear hz75
        refine h_call (sp := false) (pc' := 335) (M := [(0, .ref 98), (1, .int z74), (2, .int z76)]) rfl rfl rfl rfl rfl rfl rfl rfl ?_
        refine h_aload_n (pc' := 1) rfl rfl rfl ?_
        refine h_iload_n (pc' := 2) rfl rfl rfl ?_
        refine h_call (sp := false) (pc' := 5) (M := [(0, .ref 98), (1, .int z74)]) rfl rfl rfl rfl rfl rfl rfl rfl ?_
        refine h_iload_n (pc' := 1) rfl rfl rfl ?_
        refine h_i2l (pc' := 2) rfl rfl hz74 (fun z77 hz77 => ?_)
        refine h_lconst (pc' := 3) (x := (Int64.ofInt 0)) rfl rfl rfl ?_
        refine h_aload_n (pc' := 4) rfl rfl rfl ?_
        refine h_getI (pc' := 7) (v := s0 98 1) rfl rfl rfl rfl rfl rfl (fun z78 hz78 => ?_)
        have tz78 := tf_98_1 I0
        refine h_iconst (pc' := 8) (x := (Int32.ofInt 1)) rfl rfl rfl ?_
        refine h_isub (pc' := 9) rfl rfl hz78 ci_1 rfl (by omega) (by omega) (fun z79 hz79 => ?_)
        clear hz78
        refine h_i2l (pc' := 10) rfl rfl hz79 (fun z80 hz80 => ?_)
        clear hz79
        refine h_calls (pc' := 13) (M := [(0, .long z77), (2, .long (Int64.ofInt 0)), (4, .long z80)]) rfl rfl rfl rfl rfl rfl ?_
        refine h_lload_n (pc' := 1) rfl rfl rfl ?_
        refine h_lload_n (pc' := 2) rfl rfl rfl ?_
        refine h_lcmp (pc' := 3) rfl rfl hz77 cl_0 (fun z81 hz81 => ?_)
        refine h_zlt (tg := 17) (pc' := 6) rfl rfl rfl rfl (fun c82 => absurd c82 (by omega)) (fun c82 => ?_)
        replace c82 := (h_lcr hz81).2.1 c82
        clear hz81
        refine h_lload_n (pc' := 7) rfl rfl rfl ?_
        refine h_lload (pc' := 9) rfl rfl rfl ?_
        refine h_lcmp (pc' := 10) rfl rfl hz77 hz80 (fun z83 hz83 => ?_)
        refine h_zgt (tg := 17) (pc' := 13) rfl rfl rfl rfl (fun c84 => absurd c84 (by omega)) (fun c84 => ?_)
        replace c84 := (h_lcr hz83).2.2.1 c84
        clear hz83
        refine h_iconst (pc' := 14) (x := (Int32.ofInt 1)) rfl rfl rfl ?_
        refine h_goto (pc' := 18) rfl rfl ?_
        refine h_zret rfl rfl ci_1 (by omega) (h_Kv ?_)
        clear hz77 hz80
        refine h_zret rfl rfl ci_1 (by omega) (h_Kv ?_)
        refine h_zne (tg := 10) (pc' := 8) rfl rfl rfl ci_1 (fun c85 => ?_) (fun c85 => absurd c85 (by omega))
        refine h_aload_n (pc' := 11) rfl rfl rfl ?_
        refine h_iconst (pc' := 12) (x := (Int32.ofInt 0)) rfl rfl rfl ?_
        refine h_call (sp := false) (pc' := 15) (M := [(0, .ref 98), (1, .int (Int32.ofInt 0))]) rfl rfl rfl rfl rfl rfl rfl rfl ?_
        refine n_lays _ I0  (fun s87 Is87 Gs87 ps87_0 => h_Kn ?_)
        have Zs87 : ∀ i, s87 0 i = s0 0 i := fun i => (Gs87 0 i rfl).trans rfl
        have Fs87 : h_F (fun _ _ => true) s87 s0 := fun _ _ h => by cases h
        have es87_0 : s87 64 1 = s0 64 1 := (Gs87 64 1 rfl).trans rfl
        have es87_1 : s87 98 11 = s0 98 11 := (Gs87 98 11 rfl).trans rfl
        have es87_2 : s87 64 4 = s0 64 4 := (Gs87 64 4 rfl).trans rfl
        have es87_3 : s87 98 16 = s0 98 16 := (Gs87 98 16 rfl).trans rfl
        have es87_4 : s87 10 8 = s0 10 8 := (Gs87 10 8 rfl).trans rfl
        have es87_5 : s87 98 1 = s0 98 1 := (Gs87 98 1 rfl).trans rfl
        refine h_iload_n (pc' := 16) rfl rfl rfl ?_
        refine h_tsw (dt := 96) (ts := [52, 59, 72, 84, 90]) rfl rfl rfl rfl hz76 (fun c88 => absurd c88 (by omega)) ⟨fun c88 => ?_, fun c88 => absurd c88 (by omega), fun c88 => absurd c88 (by omega), fun c88 => absurd c88 (by omega), fun c88 => absurd c88 (by omega), trivial⟩
        refine h_aload_n (pc' := 53) rfl rfl rfl ?_
        refine h_getR (pc' := 56) rfl rfl rfl rfl rfl ?_
        refine h_iload_n (pc' := 57) rfl rfl rfl ?_
        refine h_iald (pc' := 58) (v := s87 99 (s0 0 (b3 + 1))) rfl rfl rfl hz74 (by omega) (by omega) rfl (fun z89 hz89 => ?_)
        have tz89 := ty_99_0 Is87 (s0 0 (b3 + 1)) (by omega)
        refine h_iret rfl rfl (h_Kv ?_)
        clear hz74 hz76
        refine h_ceq (tg := 1441) (pc' := 338) rfl rfl rfl hz72 hz89 (fun c90 => ?_) (fun c90 => ?_)
        · clear hz72 hz89
          exact kk _ Is87 (by first | exact d_tape.le j0 (Int.le_antisymm (by omega) (by omega)) (by omega) (fun j => (Gs87 65 j rfl)) (fun j => (Gs87 102 j rfl)) | (exfalso; omega)) (Int.le_antisymm (by omega) (by omega)) (c_R.fr j2 I0 Gs87 rfl) (g_ti.e j3 (funext (fun j => Gs87 100 j rfl)))
        · clear hz72 hz89
          refine h_iconst (pc' := 339) (x := (Int32.ofInt 0)) rfl rfl rfl ?_
          first | have gp := j2.ps (j := s0 0 (b3 + 1)) (by omega) (by omega) | skip
          have gw := ty_11 I0 (s0 0 (b3 + 1))
          first | have gt := j3 (s0 99 (s0 0 (b3 + 1))) (by omega) (by omega) | skip
          first | have gv := g_tie_v (k := s0 99 (s0 0 (b3 + 1))) (by omega) (by omega) | skip
          have g1 : s87 99 (s0 0 (b3 + 1)) = s0 99 (s0 0 (b3 + 1)) := congrFun (funext (fun j => Gs87 99 j rfl)) _
          have g2 : s87 99 (6 + (s0 0 (b3 + 1))) = s0 99 (6 + (s0 0 (b3 + 1))) := congrFun (funext (fun j => Gs87 99 j rfl)) _
          have g3 : s87 100 (s87 99 (s0 0 (b3 + 1))) = s0 100 (s0 99 (s0 0 (b3 + 1))) := (congrFun (funext (fun j => Gs87 100 j rfl)) _).trans (congrArg (s0 100) (congrFun (funext (fun j => Gs87 99 j rfl)) _))
          exfalso
          omega
      · refine h_aload_n (pc' := 59) rfl rfl rfl ?_
        refine h_getR (pc' := 62) rfl rfl rfl rfl rfl ?_
        refine h_getR (pc' := 65) rfl rfl rfl rfl rfl ?_
        refine h_iload_n (pc' := 66) rfl rfl rfl ?_
        refine h_iald (pc' := 67) (v := s0 12 (s0 0 (b3 + 1))) rfl rfl rfl hz2 (by omega) (by omega) rfl (fun z91 hz91 => ?_)
        have tz91 := ty_12 I0 (s0 0 (b3 + 1))
        refine h_iret rfl rfl (h_Kv ?_)
        clear hz2 hz4
        refine h_aload_n (pc' := 322) rfl rfl rfl ?_
        refine h_aload_n (pc' := 323) rfl rfl rfl ?_
        refine h_iload_n (pc' := 324) rfl rfl rfl ?_
        refine h_iconst (pc' := 325) (x := (Int32.ofInt 1)) rfl rfl rfl ?_
        refine h_iadd (pc' := 326) rfl rfl hy3 ci_1 rfl (by omega) (by omega) (fun z92 hz92 => ?_)
        refine h_iald (pc' := 327) (v := s0 0 (b3 + 1)) rfl rfl rfl hz92 (by omega) (by omega) rfl (fun z93 hz93 => ?_)
        have tz93 := h_rgv hz93
        clear hz92
        refine h_aload_n (pc' := 328) rfl rfl rfl ?_
        refine h_iload_n (pc' := 329) rfl rfl rfl ?_
        refine h_iconst (pc' := 330) (x := (Int32.ofInt 2)) rfl rfl rfl ?_
        refine h_iadd (pc' := 331) rfl rfl hy3 ci_2 rfl (by omega) (by omega) (fun z94 hz94 => ?_)
        refine h_iald (pc' := 332) (v := s0 0 (b3 + 2)) rfl rfl rfl hz94 (by omega) (by omega) rfl (fun z95 hz95 => ?_)
        have tz95 := h_rgv hz95
        clear hz94
        refine h_call (sp := false) (pc' := 335) (M := [(0, .ref 98), (1, .int z93), (2, .int z95)]) rfl rfl rfl rfl rfl rfl rfl rfl ?_
        refine h_aload_n (pc' := 1) rfl rfl rfl ?_
        refine h_iload_n (pc' := 2) rfl rfl rfl ?_
        refine h_call (sp := false) (pc' := 5) (M := [(0, .ref 98), (1, .int z93)]) rfl rfl rfl rfl rfl rfl rfl rfl ?_
        refine h_iload_n (pc' := 1) rfl rfl rfl ?_
        refine h_i2l (pc' := 2) rfl rfl hz93 (fun z96 hz96 => ?_)
        refine h_lconst (pc' := 3) (x := (Int64.ofInt 0)) rfl rfl rfl ?_
        refine h_aload_n (pc' := 4) rfl rfl rfl ?_
        refine h_getI (pc' := 7) (v := s0 98 1) rfl rfl rfl rfl rfl rfl (fun z97 hz97 => ?_)
        have tz97 := tf_98_1 I0
        refine h_iconst (pc' := 8) (x := (Int32.ofInt 1)) rfl rfl rfl ?_
        refine h_isub (pc' := 9) rfl rfl hz97 ci_1 rfl (by omega) (by omega) (fun z98 hz98 => ?_)
        clear hz97
        refine h_i2l (pc' := 10) rfl rfl hz98 (fun z99 hz99 => ?_)
        clear hz98
        refine h_calls (pc' := 13) (M := [(0, .long z96), (2, .long (Int64.ofInt 0)), (4, .long z99)]) rfl rfl rfl rfl rfl rfl ?_
        refine h_lload_n (pc' := 1) rfl rfl rfl ?_
        refine h_lload_n (pc' := 2) rfl rfl rfl ?_
        refine h_lcmp (pc' := 3) rfl rfl hz96 cl_0 (fun z100 hz100 => ?_)
        refine h_zlt (tg := 17) (pc' := 6) rfl rfl rfl rfl (fun c101 => absurd c101 (by omega)) (fun c101 => ?_)
        replace c101 := (h_lcr hz100).2.1 c101
        clear hz100
        refine h_lload_n (pc' := 7) rfl rfl rfl ?_
        refine h_lload (pc' := 9) rfl rfl rfl ?_
        refine h_lcmp (pc' := 10) rfl rfl hz96 hz99 (fun z102 hz102 => ?_)
        refine h_zgt (tg := 17) (pc' := 13) rfl rfl rfl rfl (fun c103 => absurd c103 (by omega)) (fun c103 => ?_)
        replace c103 := (h_lcr hz102).2.2.1 c103
        clear hz102
        refine h_iconst (pc' := 14) (x := (Int32.ofInt 1)) rfl rfl rfl ?_
        refine h_goto (pc' := 18) rfl rfl ?_
        refine h_zret rfl rfl ci_1 (by omega) (h_Kv ?_)
        clear hz96 hz99
        refine h_zret rfl rfl ci_1 (by omega) (h_Kv ?_)
        refine h_zne (tg := 10) (pc' := 8) rfl rfl rfl ci_1 (fun c104 => ?_) (fun c104 => absurd c104 (by omega))
        refine h_aload_n (pc' := 11) rfl rfl rfl ?_
        refine h_iconst (pc' := 12) (x := (Int32.ofInt 0)) rfl rfl rfl ?_
        refine h_call (sp := false) (pc' := 15) (M := [(0, .ref 98), (1, .int (Int32.ofInt 0))]) rfl rfl rfl rfl rfl rfl rfl rfl ?_
        refine n_lays _ I0  (fun s106 Is106 Gs106 ps106_0 => h_Kn ?_)
        have Zs106 : ∀ i, s106 0 i = s0 0 i := fun i => (Gs106 0 i rfl).trans rfl
        have Fs106 : h_F (fun _ _ => true) s106 s0 := fun _ _ h => by cases h
        have es106_0 : s106 64 1 = s0 64 1 := (Gs106 64 1 rfl).trans rfl
        have es106_1 : s106 98 11 = s0 98 11 := (Gs106 98 11 rfl).trans rfl
        have es106_2 : s106 64 4 = s0 64 4 := (Gs106 64 4 rfl).trans rfl
        have es106_3 : s106 98 16 = s0 98 16 := (Gs106 98 16 rfl).trans rfl
        have es106_4 : s106 10 8 = s0 10 8 := (Gs106 10 8 rfl).trans rfl
        have es106_5 : s106 98 1 = s0 98 1 := (Gs106 98 1 rfl).trans rfl
        refine h_iload_n (pc' := 16) rfl rfl rfl ?_
        refine h_tsw (dt := 96) (ts := [52, 59, 72, 84, 90]) rfl rfl rfl rfl hz95 (fun c107 => absurd c107 (by omega)) ⟨fun c107 => absurd c107 (by omega), fun c107 => ?_, fun c107 => absurd c107 (by omega), fun c107 => absurd c107 (by omega), fun c107 => absurd c107 (by omega), trivial⟩
        refine h_aload_n (pc' := 60) rfl rfl rfl ?_
        refine h_getR (pc' := 63) rfl rfl rfl rfl rfl ?_
        refine h_bipush (pc' := 65) (x := (Int32.ofInt 6)) rfl rfl cb_6 ?_
        refine h_iload_n (pc' := 66) rfl rfl rfl ?_
        refine h_iadd (pc' := 67) rfl rfl ci_6 hz93 rfl (by have g0 := h_rgv hz93; omega) (by have g0 := h_rgv hz93; omega) (fun z108 hz108 => ?_)
        refine h_iald (pc' := 68) (v := s106 99 (6 + (s0 0 (b3 + 1)))) rfl rfl rfl hz108 (by omega) (by omega) rfl (fun z109 hz109 => ?_)
        have tz109 := ty_99_1 Is106 (6 + (s0 0 (b3 + 1))) (by omega)
        clear hz108
        refine h_calls (pc' := 71) (M := [(0, .int z109)]) rfl rfl rfl rfl rfl rfl ?_
        refine h_iload_n (pc' := 1) rfl rfl rfl ?_
        refine h_zne (tg := 9) (pc' := 4) rfl rfl rfl hz109 (fun c110 => ?_) (fun c110 => ?_)
        · refine h_iload_n (pc' := 10) rfl rfl rfl ?_
          refine h_iconst (pc' := 11) (x := (Int32.ofInt 1)) rfl rfl rfl ?_
          refine h_isub (pc' := 12) rfl rfl hz109 ci_1 rfl (by omega) (by omega) (fun z111 hz111 => ?_)
          refine h_iret rfl rfl (h_Kv ?_)
          clear hz109
          refine h_iret rfl rfl (h_Kv ?_)
          clear hz93 hz95
          refine h_ceq (tg := 1441) (pc' := 338) rfl rfl rfl hz91 hz111 (fun c112 => ?_) (fun c112 => ?_)
          · clear hz111 hz91
            exact kk _ Is106 (by first | exact d_tape.le j0 (Int.le_antisymm (by omega) (by omega)) (by omega) (fun j => (Gs106 65 j rfl)) (fun j => (Gs106 102 j rfl)) | (exfalso; omega)) (Int.le_antisymm (by omega) (by omega)) (c_R.fr j2 I0 Gs106 rfl) (g_ti.e j3 (funext (fun j => Gs106 100 j rfl)))
          · clear hz111 hz91
            refine h_iconst (pc' := 339) (x := (Int32.ofInt 0)) rfl rfl rfl ?_
            first | have gp := j2.ps (j := s0 0 (b3 + 1)) (by omega) (by omega) | skip
            have gw := ty_11 I0 (s0 0 (b3 + 1))
            first | have gt := j3 (s0 99 (s0 0 (b3 + 1))) (by omega) (by omega) | skip
            first | have gv := g_tie_v (k := s0 99 (s0 0 (b3 + 1))) (by omega) (by omega) | skip
            have g1 : s106 99 (s0 0 (b3 + 1)) = s0 99 (s0 0 (b3 + 1)) := congrFun (funext (fun j => Gs106 99 j rfl)) _
            have g2 : s106 99 (6 + (s0 0 (b3 + 1))) = s0 99 (6 + (s0 0 (b3 + 1))) := congrFun (funext (fun j => Gs106 99 j rfl)) _
            have g3 : s106 100 (s106 99 (s0 0 (b3 + 1))) = s0 100 (s0 99 (s0 0 (b3 + 1))) := (congrFun (funext (fun j => Gs106 100 j rfl)) _).trans (congrArg (s0 100) (congrFun (funext (fun j => Gs106 99 j rfl)) _))
            exfalso
            omega
        · refine h_bipush (pc' := 6) (x := (Int32.ofInt (-4))) rfl rfl cb_m4 ?_
          refine h_goto (pc' := 12) rfl rfl ?_
          refine h_iret rfl rfl (h_Kv ?_)
          clear hz109
          refine h_iret rfl rfl (h_Kv ?_)
          clear hz93 hz95
          refine h_ceq (tg := 1441) (pc' := 338) rfl rfl rfl hz91 ci_m4 (fun c113 => ?_) (fun c113 => ?_)
          · clear hz91
            exact kk _ Is106 (by first | exact d_tape.le j0 (Int.le_antisymm (by omega) (by omega)) (by omega) (fun j => (Gs106 65 j rfl)) (fun j => (Gs106 102 j rfl)) | (exfalso; omega)) (Int.le_antisymm (by omega) (by omega)) (c_R.fr j2 I0 Gs106 rfl) (g_ti.e j3 (funext (fun j => Gs106 100 j rfl)))
          · clear hz91
            refine h_iconst (pc' := 339) (x := (Int32.ofInt 0)) rfl rfl rfl ?_
            first | have gp := j2.ps (j := s0 0 (b3 + 1)) (by omega) (by omega) | skip
            have gw := ty_11 I0 (s0 0 (b3 + 1))
            first | have gt := j3 (s0 99 (s0 0 (b3 + 1))) (by omega) (by omega) | skip
            first | have gv := g_tie_v (k := s0 99 (s0 0 (b3 + 1))) (by omega) (by omega) | skip
            have g1 : s106 99 (s0 0 (b3 + 1)) = s0 99 (s0 0 (b3 + 1)) := congrFun (funext (fun j => Gs106 99 j rfl)) _
            have g2 : s106 99 (6 + (s0 0 (b3 + 1))) = s0 99 (6 + (s0 0 (b3 + 1))) := congrFun (funext (fun j => Gs106 99 j rfl)) _
            have g3 : s106 100 (s106 99 (s0 0 (b3 + 1))) = s0 100 (s0 99 (s0 0 (b3 + 1))) := (congrFun (funext (fun j => Gs106 100 j rfl)) _).trans (congrArg (s0 100) (congrFun (funext (fun j => Gs106 99 j rfl)) _))
            exfalso
            omega
      · refine h_aload_n (pc' := 69) rfl rfl rfl ?_
        refine h_getR (pc' := 72) rfl rfl rfl rfl rfl ?_
        refine h_getR (pc' := 75) rfl rfl rfl rfl rfl ?_
        refine h_iload_n (pc' := 76) rfl rfl rfl ?_
        refine h_iald (pc' := 77) (v := s0 11 (s0 0 (b3 + 1))) rfl rfl rfl hz2 (by omega) (by omega) rfl (fun z114 hz114 => ?_)
        have tz114 := ty_11 I0 (s0 0 (b3 + 1))
        refine h_calls (pc' := 80) (M := [(0, .int z114)]) rfl rfl rfl rfl rfl rfl ?_
        refine h_iload_n (pc' := 1) rfl rfl rfl ?_
        refine h_tsw (dt := 34) (ts := [28, 30, 32]) rfl rfl rfl rfl hz114 (fun c115 => ?_) ⟨fun c115 => ?_, fun c115 => ?_, fun c115 => ?_, trivial⟩
        · refine h_iconst (pc' := 35) (x := (Int32.ofInt 4)) rfl rfl rfl ?_
          refine h_iret rfl rfl (h_Kv ?_)
          clear hz114
          refine h_iret rfl rfl (h_Kv ?_)
          clear hz2 hz4
          refine h_aload_n (pc' := 322) rfl rfl rfl ?_
          refine h_aload_n (pc' := 323) rfl rfl rfl ?_
          refine h_iload_n (pc' := 324) rfl rfl rfl ?_
          refine h_iconst (pc' := 325) (x := (Int32.ofInt 1)) rfl rfl rfl ?_
          refine h_iadd (pc' := 326) rfl rfl hy3 ci_1 rfl (by omega) (by omega) (fun z116 hz116 => ?_)
          refine h_iald (pc' := 327) (v := s0 0 (b3 + 1)) rfl rfl rfl hz116 (by omega) (by omega) rfl (fun z117 hz117 => ?_)
          have tz117 := h_rgv hz117
          clear hz116
          refine h_aload_n (pc' := 328) rfl rfl rfl ?_
          refine h_iload_n (pc' := 329) rfl rfl rfl ?_
          refine h_iconst (pc' := 330) (x := (Int32.ofInt 2)) rfl rfl rfl ?_
          refine h_iadd (pc' := 331) rfl rfl hy3 ci_2 rfl (by omega) (by omega) (fun z118 hz118 => ?_)
          refine h_iald (pc' := 332) (v := s0 0 (b3 + 2)) rfl rfl rfl hz118 (by omega) (by omega) rfl (fun z119 hz119 => ?_)
          have tz119 := h_rgv hz119
          clear hz118
          refine h_call (sp := false) (pc' := 335) (M := [(0, .ref 98), (1, .int z117), (2, .int z119)]) rfl rfl rfl rfl rfl rfl rfl rfl ?_
          refine h_aload_n (pc' := 1) rfl rfl rfl ?_
          refine h_iload_n (pc' := 2) rfl rfl rfl ?_
          refine h_call (sp := false) (pc' := 5) (M := [(0, .ref 98), (1, .int z117)]) rfl rfl rfl rfl rfl rfl rfl rfl ?_
          refine h_iload_n (pc' := 1) rfl rfl rfl ?_
          refine h_i2l (pc' := 2) rfl rfl hz117 (fun z120 hz120 => ?_)
          refine h_lconst (pc' := 3) (x := (Int64.ofInt 0)) rfl rfl rfl ?_
          refine h_aload_n (pc' := 4) rfl rfl rfl ?_
          refine h_getI (pc' := 7) (v := s0 98 1) rfl rfl rfl rfl rfl rfl (fun z121 hz121 => ?_)
          have tz121 := tf_98_1 I0
          refine h_iconst (pc' := 8) (x := (Int32.ofInt 1)) rfl rfl rfl ?_
          refine h_isub (pc' := 9) rfl rfl hz121 ci_1 rfl (by omega) (by omega) (fun z122 hz122 => ?_)
          clear hz121
          refine h_i2l (pc' := 10) rfl rfl hz122 (fun z123 hz123 => ?_)
          clear hz122
          refine h_calls (pc' := 13) (M := [(0, .long z120), (2, .long (Int64.ofInt 0)), (4, .long z123)]) rfl rfl rfl rfl rfl rfl ?_
          refine h_lload_n (pc' := 1) rfl rfl rfl ?_
          refine h_lload_n (pc' := 2) rfl rfl rfl ?_
          refine h_lcmp (pc' := 3) rfl rfl hz120 cl_0 (fun z124 hz124 => ?_)
          refine h_zlt (tg := 17) (pc' := 6) rfl rfl rfl rfl (fun c125 => absurd c125 (by omega)) (fun c125 => ?_)
          replace c125 := (h_lcr hz124).2.1 c125
          clear hz124
          refine h_lload_n (pc' := 7) rfl rfl rfl ?_
          refine h_lload (pc' := 9) rfl rfl rfl ?_
          refine h_lcmp (pc' := 10) rfl rfl hz120 hz123 (fun z126 hz126 => ?_)
          refine h_zgt (tg := 17) (pc' := 13) rfl rfl rfl rfl (fun c127 => absurd c127 (by omega)) (fun c127 => ?_)
          replace c127 := (h_lcr hz126).2.2.1 c127
          clear hz126
          refine h_iconst (pc' := 14) (x := (Int32.ofInt 1)) rfl rfl rfl ?_
          refine h_goto (pc' := 18) rfl rfl ?_
          refine h_zret rfl rfl ci_1 (by omega) (h_Kv ?_)
          clear hz120 hz123
          refine h_zret rfl rfl ci_1 (by omega) (h_Kv ?_)
          refine h_zne (tg := 10) (pc' := 8) rfl rfl rfl ci_1 (fun c128 => ?_) (fun c128 => absurd c128 (by omega))
          refine h_aload_n (pc' := 11) rfl rfl rfl ?_
          refine h_iconst (pc' := 12) (x := (Int32.ofInt 0)) rfl rfl rfl ?_
          refine h_call (sp := false) (pc' := 15) (M := [(0, .ref 98), (1, .int (Int32.ofInt 0))]) rfl rfl rfl rfl rfl rfl rfl rfl ?_
          refine n_lays _ I0  (fun s130 Is130 Gs130 ps130_0 => h_Kn ?_)
          have Zs130 : ∀ i, s130 0 i = s0 0 i := fun i => (Gs130 0 i rfl).trans rfl
          have Fs130 : h_F (fun _ _ => true) s130 s0 := fun _ _ h => by cases h
          have es130_0 : s130 64 1 = s0 64 1 := (Gs130 64 1 rfl).trans rfl
          have es130_1 : s130 98 11 = s0 98 11 := (Gs130 98 11 rfl).trans rfl
          have es130_2 : s130 64 4 = s0 64 4 := (Gs130 64 4 rfl).trans rfl
          have es130_3 : s130 98 16 = s0 98 16 := (Gs130 98 16 rfl).trans rfl
          have es130_4 : s130 10 8 = s0 10 8 := (Gs130 10 8 rfl).trans rfl
          have es130_5 : s130 98 1 = s0 98 1 := (Gs130 98 1 rfl).trans rfl
          refine h_iload_n (pc' := 16) rfl rfl rfl ?_
          refine h_tsw (dt := 96) (ts := [52, 59, 72, 84, 90]) rfl rfl rfl rfl hz119 (fun c131 => absurd c131 (by omega)) ⟨fun c131 => absurd c131 (by omega), fun c131 => absurd c131 (by omega), fun c131 => ?_, fun c131 => absurd c131 (by omega), fun c131 => absurd c131 (by omega), trivial⟩
          refine h_aload_n (pc' := 73) rfl rfl rfl ?_
          refine h_getR (pc' := 76) rfl rfl rfl rfl rfl ?_
          refine h_aload_n (pc' := 77) rfl rfl rfl ?_
          refine h_getR (pc' := 80) rfl rfl rfl rfl rfl ?_
          refine h_iload_n (pc' := 81) rfl rfl rfl ?_
          refine h_iald (pc' := 82) (v := s130 99 (s0 0 (b3 + 1))) rfl rfl rfl hz117 (by omega) (by omega) rfl (fun z132 hz132 => ?_)
          have tz132 := ty_99_0 Is130 (s0 0 (b3 + 1)) (by omega)
          refine h_iald (pc' := 83) (v := s130 100 (s130 99 (s0 0 (b3 + 1)))) rfl rfl rfl hz132 (by omega) (by omega) rfl (fun z133 hz133 => ?_)
          have tz133 := ty_100 Is130 (s130 99 (s0 0 (b3 + 1)))
          clear hz132
          refine h_iret rfl rfl (h_Kv ?_)
          clear hz117 hz119
          refine h_ceq (tg := 1441) (pc' := 338) rfl rfl rfl ci_4 hz133 (fun c134 => ?_) (fun c134 => ?_)
          · clear hz133
            exact kk _ Is130 (by first | exact d_tape.le j0 (Int.le_antisymm (by omega) (by omega)) (by omega) (fun j => (Gs130 65 j rfl)) (fun j => (Gs130 102 j rfl)) | (exfalso; omega)) (Int.le_antisymm (by omega) (by omega)) (c_R.fr j2 I0 Gs130 rfl) (g_ti.e j3 (funext (fun j => Gs130 100 j rfl)))
          · clear hz133
            refine h_iconst (pc' := 339) (x := (Int32.ofInt 0)) rfl rfl rfl ?_
            first | have gp := j2.ps (j := s0 0 (b3 + 1)) (by omega) (by omega) | skip
            have gw := ty_11 I0 (s0 0 (b3 + 1))
            first | have gt := j3 (s0 99 (s0 0 (b3 + 1))) (by omega) (by omega) | skip
            first | have gv := g_tie_v (k := s0 99 (s0 0 (b3 + 1))) (by omega) (by omega) | skip
            have g1 : s130 99 (s0 0 (b3 + 1)) = s0 99 (s0 0 (b3 + 1)) := congrFun (funext (fun j => Gs130 99 j rfl)) _
            have g2 : s130 99 (6 + (s0 0 (b3 + 1))) = s0 99 (6 + (s0 0 (b3 + 1))) := congrFun (funext (fun j => Gs130 99 j rfl)) _
            have g3 : s130 100 (s130 99 (s0 0 (b3 + 1))) = s0 100 (s0 99 (s0 0 (b3 + 1))) := (congrFun (funext (fun j => Gs130 100 j rfl)) _).trans (congrArg (s0 100) (congrFun (funext (fun j => Gs130 99 j rfl)) _))
            exfalso
            omega
        · refine h_iconst (pc' := 29) (x := (Int32.ofInt 1)) rfl rfl rfl ?_
          refine h_iret rfl rfl (h_Kv ?_)
          clear hz114
          refine h_iret rfl rfl (h_Kv ?_)
          clear hz2 hz4
          refine h_aload_n (pc' := 322) rfl rfl rfl ?_
          refine h_aload_n (pc' := 323) rfl rfl rfl ?_
          refine h_iload_n (pc' := 324) rfl rfl rfl ?_
          refine h_iconst (pc' := 325) (x := (Int32.ofInt 1)) rfl rfl rfl ?_
          refine h_iadd (pc' := 326) rfl rfl hy3 ci_1 rfl (by omega) (by omega) (fun z135 hz135 => ?_)
          refine h_iald (pc' := 327) (v := s0 0 (b3 + 1)) rfl rfl rfl hz135 (by omega) (by omega) rfl (fun z136 hz136 => ?_)
          have tz136 := h_rgv hz136
          clear hz135
          refine h_aload_n (pc' := 328) rfl rfl rfl ?_
          refine h_iload_n (pc' := 329) rfl rfl rfl ?_
          refine h_iconst (pc' := 330) (x := (Int32.ofInt 2)) rfl rfl rfl ?_
          refine h_iadd (pc' := 331) rfl rfl hy3 ci_2 rfl (by omega) (by omega) (fun z137 hz137 => ?_)
          refine h_iald (pc' := 332) (v := s0 0 (b3 + 2)) rfl rfl rfl hz137 (by omega) (by omega) rfl (fun z138 hz138 => ?_)
          have tz138 := h_rgv hz138
          clear hz137
          refine h_call (sp := false) (pc' := 335) (M := [(0, .ref 98), (1, .int z136), (2, .int z138)]) rfl rfl rfl rfl rfl rfl rfl rfl ?_
          refine h_aload_n (pc' := 1) rfl rfl rfl ?_
          refine h_iload_n (pc' := 2) rfl rfl rfl ?_
          refine h_call (sp := false) (pc' := 5) (M := [(0, .ref 98), (1, .int z136)]) rfl rfl rfl rfl rfl rfl rfl rfl ?_
          refine h_iload_n (pc' := 1) rfl rfl rfl ?_
          refine h_i2l (pc' := 2) rfl rfl hz136 (fun z139 hz139 => ?_)
          refine h_lconst (pc' := 3) (x := (Int64.ofInt 0)) rfl rfl rfl ?_
          refine h_aload_n (pc' := 4) rfl rfl rfl ?_
          refine h_getI (pc' := 7) (v := s0 98 1) rfl rfl rfl rfl rfl rfl (fun z140 hz140 => ?_)
          have tz140 := tf_98_1 I0
          refine h_iconst (pc' := 8) (x := (Int32.ofInt 1)) rfl rfl rfl ?_
          refine h_isub (pc' := 9) rfl rfl hz140 ci_1 rfl (by omega) (by omega) (fun z141 hz141 => ?_)
          clear hz140
          refine h_i2l (pc' := 10) rfl rfl hz141 (fun z142 hz142 => ?_)
          clear hz141
          refine h_calls (pc' := 13) (M := [(0, .long z139), (2, .long (Int64.ofInt 0)), (4, .long z142)]) rfl rfl rfl rfl rfl rfl ?_
          refine h_lload_n (pc' := 1) rfl rfl rfl ?_
          refine h_lload_n (pc' := 2) rfl rfl rfl ?_
          refine h_lcmp (pc' := 3) rfl rfl hz139 cl_0 (fun z143 hz143 => ?_)
          refine h_zlt (tg := 17) (pc' := 6) rfl rfl rfl rfl (fun c144 => absurd c144 (by omega)) (fun c144 => ?_)
          replace c144 := (h_lcr hz143).2.1 c144
          clear hz143
          refine h_lload_n (pc' := 7) rfl rfl rfl ?_
          refine h_lload (pc' := 9) rfl rfl rfl ?_
          refine h_lcmp (pc' := 10) rfl rfl hz139 hz142 (fun z145 hz145 => ?_)
          refine h_zgt (tg := 17) (pc' := 13) rfl rfl rfl rfl (fun c146 => absurd c146 (by omega)) (fun c146 => ?_)
          replace c146 := (h_lcr hz145).2.2.1 c146
          clear hz145
          refine h_iconst (pc' := 14) (x := (Int32.ofInt 1)) rfl rfl rfl ?_
          refine h_goto (pc' := 18) rfl rfl ?_
          refine h_zret rfl rfl ci_1 (by omega) (h_Kv ?_)
          clear hz139 hz142
          refine h_zret rfl rfl ci_1 (by omega) (h_Kv ?_)
          refine h_zne (tg := 10) (pc' := 8) rfl rfl rfl ci_1 (fun c147 => ?_) (fun c147 => absurd c147 (by omega))
          refine h_aload_n (pc' := 11) rfl rfl rfl ?_
          refine h_iconst (pc' := 12) (x := (Int32.ofInt 0)) rfl rfl rfl ?_
          refine h_call (sp := false) (pc' := 15) (M := [(0, .ref 98), (1, .int (Int32.ofInt 0))]) rfl rfl rfl rfl rfl rfl rfl rfl ?_
          refine n_lays _ I0  (fun s149 Is149 Gs149 ps149_0 => h_Kn ?_)
          have Zs149 : ∀ i, s149 0 i = s0 0 i := fun i => (Gs149 0 i rfl).trans rfl
          have Fs149 : h_F (fun _ _ => true) s149 s0 := fun _ _ h => by cases h
          have es149_0 : s149 64 1 = s0 64 1 := (Gs149 64 1 rfl).trans rfl
          have es149_1 : s149 98 11 = s0 98 11 := (Gs149 98 11 rfl).trans rfl
          have es149_2 : s149 64 4 = s0 64 4 := (Gs149 64 4 rfl).trans rfl
          have es149_3 : s149 98 16 = s0 98 16 := (Gs149 98 16 rfl).trans rfl
          have es149_4 : s149 10 8 = s0 10 8 := (Gs149 10 8 rfl).trans rfl
          have es149_5 : s149 98 1 = s0 98 1 := (Gs149 98 1 rfl).trans rfl
          refine h_iload_n (pc' := 16) rfl rfl rfl ?_
          refine h_tsw (dt := 96) (ts := [52, 59, 72, 84, 90]) rfl rfl rfl rfl hz138 (fun c150 => absurd c150 (by omega)) ⟨fun c150 => absurd c150 (by omega), fun c150 => absurd c150 (by omega), fun c150 => ?_, fun c150 => absurd c150 (by omega), fun c150 => absurd c150 (by omega), trivial⟩
          refine h_aload_n (pc' := 73) rfl rfl rfl ?_
          refine h_getR (pc' := 76) rfl rfl rfl rfl rfl ?_
          refine h_aload_n (pc' := 77) rfl rfl rfl ?_
          refine h_getR (pc' := 80) rfl rfl rfl rfl rfl ?_
          refine h_iload_n (pc' := 81) rfl rfl rfl ?_
          refine h_iald (pc' := 82) (v := s149 99 (s0 0 (b3 + 1))) rfl rfl rfl hz136 (by omega) (by omega) rfl (fun z151 hz151 => ?_)
          have tz151 := ty_99_0 Is149 (s0 0 (b3 + 1)) (by omega)
          refine h_iald (pc' := 83) (v := s149 100 (s149 99 (s0 0 (b3 + 1)))) rfl rfl rfl hz151 (by omega) (by omega) rfl (fun z152 hz152 => ?_)
          have tz152 := ty_100 Is149 (s149 99 (s0 0 (b3 + 1)))
          clear hz151
          refine h_iret rfl rfl (h_Kv ?_)
          clear hz136 hz138
          refine h_ceq (tg := 1441) (pc' := 338) rfl rfl rfl ci_1 hz152 (fun c153 => ?_) (fun c153 => ?_)
          · clear hz152
            exact kk _ Is149 (by first | exact d_tape.le j0 (Int.le_antisymm (by omega) (by omega)) (by omega) (fun j => (Gs149 65 j rfl)) (fun j => (Gs149 102 j rfl)) | (exfalso; omega)) (Int.le_antisymm (by omega) (by omega)) (c_R.fr j2 I0 Gs149 rfl) (g_ti.e j3 (funext (fun j => Gs149 100 j rfl)))
          · clear hz152
            refine h_iconst (pc' := 339) (x := (Int32.ofInt 0)) rfl rfl rfl ?_
            first | have gp := j2.ps (j := s0 0 (b3 + 1)) (by omega) (by omega) | skip
            have gw := ty_11 I0 (s0 0 (b3 + 1))
            first | have gt := j3 (s0 99 (s0 0 (b3 + 1))) (by omega) (by omega) | skip
            first | have gv := g_tie_v (k := s0 99 (s0 0 (b3 + 1))) (by omega) (by omega) | skip
            have g1 : s149 99 (s0 0 (b3 + 1)) = s0 99 (s0 0 (b3 + 1)) := congrFun (funext (fun j => Gs149 99 j rfl)) _
            have g2 : s149 99 (6 + (s0 0 (b3 + 1))) = s0 99 (6 + (s0 0 (b3 + 1))) := congrFun (funext (fun j => Gs149 99 j rfl)) _
            have g3 : s149 100 (s149 99 (s0 0 (b3 + 1))) = s0 100 (s0 99 (s0 0 (b3 + 1))) := (congrFun (funext (fun j => Gs149 100 j rfl)) _).trans (congrArg (s0 100) (congrFun (funext (fun j => Gs149 99 j rfl)) _))
            exfalso
            omega
        · refine h_iconst (pc' := 31) (x := (Int32.ofInt 2)) rfl rfl rfl ?_
          refine h_iret rfl rfl (h_Kv ?_)
          clear hz114
          refine h_iret rfl rfl (h_Kv ?_)
          clear hz2 hz4
          refine h_aload_n (pc' := 322) rfl rfl rfl ?_
          refine h_aload_n (pc' := 323) rfl rfl rfl ?_
          refine h_iload_n (pc' := 324) rfl rfl rfl ?_
          refine h_iconst (pc' := 325) (x := (Int32.ofInt 1)) rfl rfl rfl ?_
          refine h_iadd (pc' := 326) rfl rfl hy3 ci_1 rfl (by omega) (by omega) (fun z154 hz154 => ?_)
          refine h_iald (pc' := 327) (v := s0 0 (b3 + 1)) rfl rfl rfl hz154 (by omega) (by omega) rfl (fun z155 hz155 => ?_)
          have tz155 := h_rgv hz155
          clear hz154
          refine h_aload_n (pc' := 328) rfl rfl rfl ?_
          refine h_iload_n (pc' := 329) rfl rfl rfl ?_
          refine h_iconst (pc' := 330) (x := (Int32.ofInt 2)) rfl rfl rfl ?_
          refine h_iadd (pc' := 331) rfl rfl hy3 ci_2 rfl (by omega) (by omega) (fun z156 hz156 => ?_)
          refine h_iald (pc' := 332) (v := s0 0 (b3 + 2)) rfl rfl rfl hz156 (by omega) (by omega) rfl (fun z157 hz157 => ?_)
          have tz157 := h_rgv hz157
          clear hz156
          refine h_call (sp := false) (pc' := 335) (M := [(0, .ref 98), (1, .int z155), (2, .int z157)]) rfl rfl rfl rfl rfl rfl rfl rfl ?_
          refine h_aload_n (pc' := 1) rfl rfl rfl ?_
          refine h_iload_n (pc' := 2) rfl rfl rfl ?_
          refine h_call (sp := false) (pc' := 5) (M := [(0, .ref 98), (1, .int z155)]) rfl rfl rfl rfl rfl rfl rfl rfl ?_
          refine h_iload_n (pc' := 1) rfl rfl rfl ?_
          refine h_i2l (pc' := 2) rfl rfl hz155 (fun z158 hz158 => ?_)
          refine h_lconst (pc' := 3) (x := (Int64.ofInt 0)) rfl rfl rfl ?_
          refine h_aload_n (pc' := 4) rfl rfl rfl ?_
          refine h_getI (pc' := 7) (v := s0 98 1) rfl rfl rfl rfl rfl rfl (fun z159 hz159 => ?_)
          have tz159 := tf_98_1 I0
          refine h_iconst (pc' := 8) (x := (Int32.ofInt 1)) rfl rfl rfl ?_
          refine h_isub (pc' := 9) rfl rfl hz159 ci_1 rfl (by omega) (by omega) (fun z160 hz160 => ?_)
          clear hz159
          refine h_i2l (pc' := 10) rfl rfl hz160 (fun z161 hz161 => ?_)
          clear hz160
          refine h_calls (pc' := 13) (M := [(0, .long z158), (2, .long (Int64.ofInt 0)), (4, .long z161)]) rfl rfl rfl rfl rfl rfl ?_
          refine h_lload_n (pc' := 1) rfl rfl rfl ?_
          refine h_lload_n (pc' := 2) rfl rfl rfl ?_
          refine h_lcmp (pc' := 3) rfl rfl hz158 cl_0 (fun z162 hz162 => ?_)
          refine h_zlt (tg := 17) (pc' := 6) rfl rfl rfl rfl (fun c163 => absurd c163 (by omega)) (fun c163 => ?_)
          replace c163 := (h_lcr hz162).2.1 c163
          clear hz162
          refine h_lload_n (pc' := 7) rfl rfl rfl ?_
          refine h_lload (pc' := 9) rfl rfl rfl ?_
          refine h_lcmp (pc' := 10) rfl rfl hz158 hz161 (fun z164 hz164 => ?_)
          refine h_zgt (tg := 17) (pc' := 13) rfl rfl rfl rfl (fun c165 => absurd c165 (by omega)) (fun c165 => ?_)
          replace c165 := (h_lcr hz164).2.2.1 c165
          clear hz164
          refine h_iconst (pc' := 14) (x := (Int32.ofInt 1)) rfl rfl rfl ?_
          refine h_goto (pc' := 18) rfl rfl ?_
          refine h_zret rfl rfl ci_1 (by omega) (h_Kv ?_)
          clear hz158 hz161
          refine h_zret rfl rfl ci_1 (by omega) (h_Kv ?_)
          refine h_zne (tg := 10) (pc' := 8) rfl rfl rfl ci_1 (fun c166 => ?_) (fun c166 => absurd c166 (by omega))
          refine h_aload_n (pc' := 11) rfl rfl rfl ?_
          refine h_iconst (pc' := 12) (x := (Int32.ofInt 0)) rfl rfl rfl ?_
          refine h_call (sp := false) (pc' := 15) (M := [(0, .ref 98), (1, .int (Int32.ofInt 0))]) rfl rfl rfl rfl rfl rfl rfl rfl ?_
          refine n_lays _ I0  (fun s168 Is168 Gs168 ps168_0 => h_Kn ?_)
          have Zs168 : ∀ i, s168 0 i = s0 0 i := fun i => (Gs168 0 i rfl).trans rfl
          have Fs168 : h_F (fun _ _ => true) s168 s0 := fun _ _ h => by cases h
          have es168_0 : s168 64 1 = s0 64 1 := (Gs168 64 1 rfl).trans rfl
          have es168_1 : s168 98 11 = s0 98 11 := (Gs168 98 11 rfl).trans rfl
          have es168_2 : s168 64 4 = s0 64 4 := (Gs168 64 4 rfl).trans rfl
          have es168_3 : s168 98 16 = s0 98 16 := (Gs168 98 16 rfl).trans rfl
          have es168_4 : s168 10 8 = s0 10 8 := (Gs168 10 8 rfl).trans rfl
          have es168_5 : s168 98 1 = s0 98 1 := (Gs168 98 1 rfl).trans rfl
          refine h_iload_n (pc' := 16) rfl rfl rfl ?_
          refine h_tsw (dt := 96) (ts := [52, 59, 72, 84, 90]) rfl rfl rfl rfl hz157 (fun c169 => absurd c169 (by omega)) ⟨fun c169 => absurd c169 (by omega), fun c169 => absurd c169 (by omega), fun c169 => ?_, fun c169 => absurd c169 (by omega), fun c169 => absurd c169 (by omega), trivial⟩
          refine h_aload_n (pc' := 73) rfl rfl rfl ?_
          refine h_getR (pc' := 76) rfl rfl rfl rfl rfl ?_
          refine h_aload_n (pc' := 77) rfl rfl rfl ?_
          refine h_getR (pc' := 80) rfl rfl rfl rfl rfl ?_
          refine h_iload_n (pc' := 81) rfl rfl rfl ?_
          refine h_iald (pc' := 82) (v := s168 99 (s0 0 (b3 + 1))) rfl rfl rfl hz155 (by omega) (by omega) rfl (fun z170 hz170 => ?_)
          have tz170 := ty_99_0 Is168 (s0 0 (b3 + 1)) (by omega)
          refine h_iald (pc' := 83) (v := s168 100 (s168 99 (s0 0 (b3 + 1)))) rfl rfl rfl hz170 (by omega) (by omega) rfl (fun z171 hz171 => ?_)
          have tz171 := ty_100 Is168 (s168 99 (s0 0 (b3 + 1)))
          clear hz170
          refine h_iret rfl rfl (h_Kv ?_)
          clear hz155 hz157
          refine h_ceq (tg := 1441) (pc' := 338) rfl rfl rfl ci_2 hz171 (fun c172 => ?_) (fun c172 => ?_)
          · clear hz171
            exact kk _ Is168 (by first | exact d_tape.le j0 (Int.le_antisymm (by omega) (by omega)) (by omega) (fun j => (Gs168 65 j rfl)) (fun j => (Gs168 102 j rfl)) | (exfalso; omega)) (Int.le_antisymm (by omega) (by omega)) (c_R.fr j2 I0 Gs168 rfl) (g_ti.e j3 (funext (fun j => Gs168 100 j rfl)))
          · clear hz171
            refine h_iconst (pc' := 339) (x := (Int32.ofInt 0)) rfl rfl rfl ?_
            first | have gp := j2.ps (j := s0 0 (b3 + 1)) (by omega) (by omega) | skip
            have gw := ty_11 I0 (s0 0 (b3 + 1))
            first | have gt := j3 (s0 99 (s0 0 (b3 + 1))) (by omega) (by omega) | skip
            first | have gv := g_tie_v (k := s0 99 (s0 0 (b3 + 1))) (by omega) (by omega) | skip
            have g1 : s168 99 (s0 0 (b3 + 1)) = s0 99 (s0 0 (b3 + 1)) := congrFun (funext (fun j => Gs168 99 j rfl)) _
            have g2 : s168 99 (6 + (s0 0 (b3 + 1))) = s0 99 (6 + (s0 0 (b3 + 1))) := congrFun (funext (fun j => Gs168 99 j rfl)) _
            have g3 : s168 100 (s168 99 (s0 0 (b3 + 1))) = s0 100 (s0 99 (s0 0 (b3 + 1))) := (congrFun (funext (fun j => Gs168 100 j rfl)) _).trans (congrArg (s0 100) (congrFun (funext (fun j => Gs168 99 j rfl)) _))
            exfalso
            omega
        · refine h_iconst (pc' := 33) (x := (Int32.ofInt 0)) rfl rfl rfl ?_
          refine h_iret rfl rfl (h_Kv ?_)
          clear hz114
          refine h_iret rfl rfl (h_Kv ?_)
          clear hz2 hz4
          refine h_aload_n (pc' := 322) rfl rfl rfl ?_
          refine h_aload_n (pc' := 323) rfl rfl rfl ?_
          refine h_iload_n (pc' := 324) rfl rfl rfl ?_
          refine h_iconst (pc' := 325) (x := (Int32.ofInt 1)) rfl rfl rfl ?_
          refine h_iadd (pc' := 326) rfl rfl hy3 ci_1 rfl (by omega) (by omega) (fun z173 hz173 => ?_)
          refine h_iald (pc' := 327) (v := s0 0 (b3 + 1)) rfl rfl rfl hz173 (by omega) (by omega) rfl (fun z174 hz174 => ?_)
          have tz174 := h_rgv hz174
          clear hz173
          refine h_aload_n (pc' := 328) rfl rfl rfl ?_
          refine h_iload_n (pc' := 329) rfl rfl rfl ?_
          refine h_iconst (pc' := 330) (x := (Int32.ofInt 2)) rfl rfl rfl ?_
          refine h_iadd (pc' := 331) rfl rfl hy3 ci_2 rfl (by omega) (by omega) (fun z175 hz175 => ?_)
          refine h_iald (pc' := 332) (v := s0 0 (b3 + 2)) rfl rfl rfl hz175 (by omega) (by omega) rfl (fun z176 hz176 => ?_)
          have tz176 := h_rgv hz176
          clear hz175
          refine h_call (sp := false) (pc' := 335) (M := [(0, .ref 98), (1, .int z174), (2, .int z176)]) rfl rfl rfl rfl rfl rfl rfl rfl ?_
          refine h_aload_n (pc' := 1) rfl rfl rfl ?_
          refine h_iload_n (pc' := 2) rfl rfl rfl ?_
          refine h_call (sp := false) (pc' := 5) (M := [(0, .ref 98), (1, .int z174)]) rfl rfl rfl rfl rfl rfl rfl rfl ?_
          refine h_iload_n (pc' := 1) rfl rfl rfl ?_
          refine h_i2l (pc' := 2) rfl rfl hz174 (fun z177 hz177 => ?_)
          refine h_lconst (pc' := 3) (x := (Int64.ofInt 0)) rfl rfl rfl ?_
          refine h_aload_n (pc' := 4) rfl rfl rfl ?_
          refine h_getI (pc' := 7) (v := s0 98 1) rfl rfl rfl rfl rfl rfl (fun z178 hz178 => ?_)
          have tz178 := tf_98_1 I0
          refine h_iconst (pc' := 8) (x := (Int32.ofInt 1)) rfl rfl rfl ?_
          refine h_isub (pc' := 9) rfl rfl hz178 ci_1 rfl (by omega) (by omega) (fun z179 hz179 => ?_)
          clear hz178
          refine h_i2l (pc' := 10) rfl rfl hz179 (fun z180 hz180 => ?_)
          clear hz179
          refine h_calls (pc' := 13) (M := [(0, .long z177), (2, .long (Int64.ofInt 0)), (4, .long z180)]) rfl rfl rfl rfl rfl rfl ?_
          refine h_lload_n (pc' := 1) rfl rfl rfl ?_
          refine h_lload_n (pc' := 2) rfl rfl rfl ?_
          refine h_lcmp (pc' := 3) rfl rfl hz177 cl_0 (fun z181 hz181 => ?_)
          refine h_zlt (tg := 17) (pc' := 6) rfl rfl rfl rfl (fun c182 => absurd c182 (by omega)) (fun c182 => ?_)
          replace c182 := (h_lcr hz181).2.1 c182
          clear hz181
          refine h_lload_n (pc' := 7) rfl rfl rfl ?_
          refine h_lload (pc' := 9) rfl rfl rfl ?_
          refine h_lcmp (pc' := 10) rfl rfl hz177 hz180 (fun z183 hz183 => ?_)
          refine h_zgt (tg := 17) (pc' := 13) rfl rfl rfl rfl (fun c184 => absurd c184 (by omega)) (fun c184 => ?_)
          replace c184 := (h_lcr hz183).2.2.1 c184
          clear hz183
          refine h_iconst (pc' := 14) (x := (Int32.ofInt 1)) rfl rfl rfl ?_
          refine h_goto (pc' := 18) rfl rfl ?_
          refine h_zret rfl rfl ci_1 (by omega) (h_Kv ?_)
          clear hz177 hz180
          refine h_zret rfl rfl ci_1 (by omega) (h_Kv ?_)
          refine h_zne (tg := 10) (pc' := 8) rfl rfl rfl ci_1 (fun c185 => ?_) (fun c185 => absurd c185 (by omega))
          refine h_aload_n (pc' := 11) rfl rfl rfl ?_
          refine h_iconst (pc' := 12) (x := (Int32.ofInt 0)) rfl rfl rfl ?_
          refine h_call (sp := false) (pc' := 15) (M := [(0, .ref 98), (1, .int (Int32.ofInt 0))]) rfl rfl rfl rfl rfl rfl rfl rfl ?_
          refine n_lays _ I0  (fun s187 Is187 Gs187 ps187_0 => h_Kn ?_)
          have Zs187 : ∀ i, s187 0 i = s0 0 i := fun i => (Gs187 0 i rfl).trans rfl
          have Fs187 : h_F (fun _ _ => true) s187 s0 := fun _ _ h => by cases h
          have es187_0 : s187 64 1 = s0 64 1 := (Gs187 64 1 rfl).trans rfl
          have es187_1 : s187 98 11 = s0 98 11 := (Gs187 98 11 rfl).trans rfl
          have es187_2 : s187 64 4 = s0 64 4 := (Gs187 64 4 rfl).trans rfl
          have es187_3 : s187 98 16 = s0 98 16 := (Gs187 98 16 rfl).trans rfl
          have es187_4 : s187 10 8 = s0 10 8 := (Gs187 10 8 rfl).trans rfl
          have es187_5 : s187 98 1 = s0 98 1 := (Gs187 98 1 rfl).trans rfl
          refine h_iload_n (pc' := 16) rfl rfl rfl ?_
          refine h_tsw (dt := 96) (ts := [52, 59, 72, 84, 90]) rfl rfl rfl rfl hz176 (fun c188 => absurd c188 (by omega)) ⟨fun c188 => absurd c188 (by omega), fun c188 => absurd c188 (by omega), fun c188 => ?_, fun c188 => absurd c188 (by omega), fun c188 => absurd c188 (by omega), trivial⟩
          refine h_aload_n (pc' := 73) rfl rfl rfl ?_
          refine h_getR (pc' := 76) rfl rfl rfl rfl rfl ?_
          refine h_aload_n (pc' := 77) rfl rfl rfl ?_
          refine h_getR (pc' := 80) rfl rfl rfl rfl rfl ?_
          refine h_iload_n (pc' := 81) rfl rfl rfl ?_
          refine h_iald (pc' := 82) (v := s187 99 (s0 0 (b3 + 1))) rfl rfl rfl hz174 (by omega) (by omega) rfl (fun z189 hz189 => ?_)
          have tz189 := ty_99_0 Is187 (s0 0 (b3 + 1)) (by omega)
          refine h_iald (pc' := 83) (v := s187 100 (s187 99 (s0 0 (b3 + 1)))) rfl rfl rfl hz189 (by omega) (by omega) rfl (fun z190 hz190 => ?_)
          have tz190 := ty_100 Is187 (s187 99 (s0 0 (b3 + 1)))
          clear hz189
          refine h_iret rfl rfl (h_Kv ?_)
          clear hz174 hz176
          refine h_ceq (tg := 1441) (pc' := 338) rfl rfl rfl ci_0 hz190 (fun c191 => ?_) (fun c191 => ?_)
          · clear hz190
            exact kk _ Is187 (by first | exact d_tape.le j0 (Int.le_antisymm (by omega) (by omega)) (by omega) (fun j => (Gs187 65 j rfl)) (fun j => (Gs187 102 j rfl)) | (exfalso; omega)) (Int.le_antisymm (by omega) (by omega)) (c_R.fr j2 I0 Gs187 rfl) (g_ti.e j3 (funext (fun j => Gs187 100 j rfl)))
          · clear hz190
            refine h_iconst (pc' := 339) (x := (Int32.ofInt 0)) rfl rfl rfl ?_
            first | have gp := j2.ps (j := s0 0 (b3 + 1)) (by omega) (by omega) | skip
            have gw := ty_11 I0 (s0 0 (b3 + 1))
            first | have gt := j3 (s0 99 (s0 0 (b3 + 1))) (by omega) (by omega) | skip
            first | have gv := g_tie_v (k := s0 99 (s0 0 (b3 + 1))) (by omega) (by omega) | skip
            have g1 : s187 99 (s0 0 (b3 + 1)) = s0 99 (s0 0 (b3 + 1)) := congrFun (funext (fun j => Gs187 99 j rfl)) _
            have g2 : s187 99 (6 + (s0 0 (b3 + 1))) = s0 99 (6 + (s0 0 (b3 + 1))) := congrFun (funext (fun j => Gs187 99 j rfl)) _
            have g3 : s187 100 (s187 99 (s0 0 (b3 + 1))) = s0 100 (s0 99 (s0 0 (b3 + 1))) := (congrFun (funext (fun j => Gs187 100 j rfl)) _).trans (congrArg (s0 100) (congrFun (funext (fun j => Gs187 99 j rfl)) _))
            exfalso
            omega
      · refine h_aload_n (pc' := 82) rfl rfl rfl ?_
        refine h_getR (pc' := 85) rfl rfl rfl rfl rfl ?_
        refine h_iload_n (pc' := 86) rfl rfl rfl ?_
        refine h_call (sp := false) (pc' := 89) (M := [(0, .ref 10), (1, .int z2)]) rfl rfl rfl rfl rfl rfl rfl rfl ?_
        refine n_chX _ I0 z2 _ hz2 (by omega) (fun r192 br192 hr192 ps193_0 => h_Kv ?_)
        have kr192 := hr192
        refine h_iret rfl rfl (h_Kv ?_)
        clear hz2 hz4
        refine h_aload_n (pc' := 322) rfl rfl rfl ?_
        refine h_aload_n (pc' := 323) rfl rfl rfl ?_
        refine h_iload_n (pc' := 324) rfl rfl rfl ?_
        refine h_iconst (pc' := 325) (x := (Int32.ofInt 1)) rfl rfl rfl ?_
        refine h_iadd (pc' := 326) rfl rfl hy3 ci_1 rfl (by omega) (by omega) (fun z194 hz194 => ?_)
        refine h_iald (pc' := 327) (v := s0 0 (b3 + 1)) rfl rfl rfl hz194 (by omega) (by omega) rfl (fun z195 hz195 => ?_)
        have tz195 := h_rgv hz195
        clear hz194
        refine h_aload_n (pc' := 328) rfl rfl rfl ?_
        refine h_iload_n (pc' := 329) rfl rfl rfl ?_
        refine h_iconst (pc' := 330) (x := (Int32.ofInt 2)) rfl rfl rfl ?_
        refine h_iadd (pc' := 331) rfl rfl hy3 ci_2 rfl (by omega) (by omega) (fun z196 hz196 => ?_)
        refine h_iald (pc' := 332) (v := s0 0 (b3 + 2)) rfl rfl rfl hz196 (by omega) (by omega) rfl (fun z197 hz197 => ?_)
        have tz197 := h_rgv hz197
        clear hz196
        refine h_call (sp := false) (pc' := 335) (M := [(0, .ref 98), (1, .int z195), (2, .int z197)]) rfl rfl rfl rfl rfl rfl rfl rfl ?_
        refine h_aload_n (pc' := 1) rfl rfl rfl ?_
        refine h_iload_n (pc' := 2) rfl rfl rfl ?_
        refine h_call (sp := false) (pc' := 5) (M := [(0, .ref 98), (1, .int z195)]) rfl rfl rfl rfl rfl rfl rfl rfl ?_
        refine h_iload_n (pc' := 1) rfl rfl rfl ?_
        refine h_i2l (pc' := 2) rfl rfl hz195 (fun z198 hz198 => ?_)
        refine h_lconst (pc' := 3) (x := (Int64.ofInt 0)) rfl rfl rfl ?_
        refine h_aload_n (pc' := 4) rfl rfl rfl ?_
        refine h_getI (pc' := 7) (v := s0 98 1) rfl rfl rfl rfl rfl rfl (fun z199 hz199 => ?_)
        have tz199 := tf_98_1 I0
        refine h_iconst (pc' := 8) (x := (Int32.ofInt 1)) rfl rfl rfl ?_
        refine h_isub (pc' := 9) rfl rfl hz199 ci_1 rfl (by omega) (by omega) (fun z200 hz200 => ?_)
        clear hz199
        refine h_i2l (pc' := 10) rfl rfl hz200 (fun z201 hz201 => ?_)
        clear hz200
        refine h_calls (pc' := 13) (M := [(0, .long z198), (2, .long (Int64.ofInt 0)), (4, .long z201)]) rfl rfl rfl rfl rfl rfl ?_
        refine h_lload_n (pc' := 1) rfl rfl rfl ?_
        refine h_lload_n (pc' := 2) rfl rfl rfl ?_
        refine h_lcmp (pc' := 3) rfl rfl hz198 cl_0 (fun z202 hz202 => ?_)
        refine h_zlt (tg := 17) (pc' := 6) rfl rfl rfl rfl (fun c203 => absurd c203 (by omega)) (fun c203 => ?_)
        replace c203 := (h_lcr hz202).2.1 c203
        clear hz202
        refine h_lload_n (pc' := 7) rfl rfl rfl ?_
        refine h_lload (pc' := 9) rfl rfl rfl ?_
        refine h_lcmp (pc' := 10) rfl rfl hz198 hz201 (fun z204 hz204 => ?_)
        refine h_zgt (tg := 17) (pc' := 13) rfl rfl rfl rfl (fun c205 => absurd c205 (by omega)) (fun c205 => ?_)
        replace c205 := (h_lcr hz204).2.2.1 c205
        clear hz204
        refine h_iconst (pc' := 14) (x := (Int32.ofInt 1)) rfl rfl rfl ?_
        refine h_goto (pc' := 18) rfl rfl ?_
        refine h_zret rfl rfl ci_1 (by omega) (h_Kv ?_)
        clear hz198 hz201
        refine h_zret rfl rfl ci_1 (by omega) (h_Kv ?_)
        refine h_zne (tg := 10) (pc' := 8) rfl rfl rfl ci_1 (fun c206 => ?_) (fun c206 => absurd c206 (by omega))
        refine h_aload_n (pc' := 11) rfl rfl rfl ?_
        refine h_iconst (pc' := 12) (x := (Int32.ofInt 0)) rfl rfl rfl ?_
        refine h_call (sp := false) (pc' := 15) (M := [(0, .ref 98), (1, .int (Int32.ofInt 0))]) rfl rfl rfl rfl rfl rfl rfl rfl ?_
        refine n_lays _ I0  (fun s208 Is208 Gs208 ps208_0 => h_Kn ?_)
        have Zs208 : ∀ i, s208 0 i = s0 0 i := fun i => (Gs208 0 i rfl).trans rfl
        have Fs208 : h_F (fun _ _ => true) s208 s0 := fun _ _ h => by cases h
        have es208_0 : s208 64 1 = s0 64 1 := (Gs208 64 1 rfl).trans rfl
        have es208_1 : s208 98 11 = s0 98 11 := (Gs208 98 11 rfl).trans rfl
        have es208_2 : s208 64 4 = s0 64 4 := (Gs208 64 4 rfl).trans rfl
        have es208_3 : s208 98 16 = s0 98 16 := (Gs208 98 16 rfl).trans rfl
        have es208_4 : s208 10 8 = s0 10 8 := (Gs208 10 8 rfl).trans rfl
        have es208_5 : s208 98 1 = s0 98 1 := (Gs208 98 1 rfl).trans rfl
        refine h_iload_n (pc' := 16) rfl rfl rfl ?_
        refine h_tsw (dt := 96) (ts := [52, 59, 72, 84, 90]) rfl rfl rfl rfl hz197 (fun c209 => absurd c209 (by omega)) ⟨fun c209 => absurd c209 (by omega), fun c209 => absurd c209 (by omega), fun c209 => absurd c209 (by omega), fun c209 => ?_, fun c209 => absurd c209 (by omega), trivial⟩
        refine h_aload_n (pc' := 85) rfl rfl rfl ?_
        refine h_iload_n (pc' := 86) rfl rfl rfl ?_
        refine h_call (sp := false) (pc' := 89) (M := [(0, .ref 98), (1, .int z195)]) rfl rfl rfl rfl rfl rfl rfl rfl ?_
        refine n_chM _ Is208 z195 _ hz195 (by omega) (fun r210 br210 hr210 ps211_0 => h_Kv ?_)
        have kr210 := hr210
        refine h_iret rfl rfl (h_Kv ?_)
        clear hz195 hz197
        refine h_ceq (tg := 1441) (pc' := 338) rfl rfl rfl hr192 hr210 (fun c212 => ?_) (fun c212 => ?_)
        · clear hr192 hr210
          exact kk _ Is208 (by first | exact d_tape.le j0 (Int.le_antisymm (by omega) (by omega)) (by omega) (fun j => (Gs208 65 j rfl)) (fun j => (Gs208 102 j rfl)) | (exfalso; omega)) (Int.le_antisymm (by omega) (by omega)) (c_R.fr j2 I0 Gs208 rfl) (g_ti.e j3 (funext (fun j => Gs208 100 j rfl)))
        · clear hr192 hr210
          refine h_iconst (pc' := 339) (x := (Int32.ofInt 0)) rfl rfl rfl ?_
          first | have gp := j2.ps (j := s0 0 (b3 + 1)) (by omega) (by omega) | skip
          have gw := ty_11 I0 (s0 0 (b3 + 1))
          first | have gt := j3 (s0 99 (s0 0 (b3 + 1))) (by omega) (by omega) | skip
          first | have gv := g_tie_v (k := s0 99 (s0 0 (b3 + 1))) (by omega) (by omega) | skip
          have g1 : s208 99 (s0 0 (b3 + 1)) = s0 99 (s0 0 (b3 + 1)) := congrFun (funext (fun j => Gs208 99 j rfl)) _
          have g2 : s208 99 (6 + (s0 0 (b3 + 1))) = s0 99 (6 + (s0 0 (b3 + 1))) := congrFun (funext (fun j => Gs208 99 j rfl)) _
          have g3 : s208 100 (s208 99 (s0 0 (b3 + 1))) = s0 100 (s0 99 (s0 0 (b3 + 1))) := (congrFun (funext (fun j => Gs208 100 j rfl)) _).trans (congrArg (s0 100) (congrFun (funext (fun j => Gs208 99 j rfl)) _))
          have gc := congrArg Int32.toInt (ps193_0.trans ((j2.ch (Gs208 98 1 rfl) (funext (fun j => Gs208 99 j rfl)) (by omega)).trans ps211_0.symm))
          exfalso
          omega
      · refine h_aload_n (pc' := 91) rfl rfl rfl ?_
        refine h_getR (pc' := 94) rfl rfl rfl rfl rfl ?_
        refine h_aload_n (pc' := 95) rfl rfl rfl ?_
        refine h_getR (pc' := 98) rfl rfl rfl rfl rfl ?_
        refine h_call (sp := false) (pc' := 101) (M := [(0, .ref 79), (1, .ref 10)]) rfl rfl rfl rfl rfl rfl rfl rfl ?_
        refine n_measure_10 _ I0  (fun s214 Is214 Gs214 ps214_0 ps214_1 => h_Kn ?_)
        have Zs214 : ∀ i, s214 0 i = s0 0 i := fun i => (Gs214 0 i rfl).trans rfl
        have Fs214 : h_F (fun _ _ => true) s214 s0 := fun _ _ h => by cases h
        have es214_0 : s214 64 1 = s0 64 1 := (Gs214 64 1 rfl).trans rfl
        have es214_1 : s214 98 11 = s0 98 11 := (Gs214 98 11 rfl).trans rfl
        have es214_2 : s214 64 4 = s0 64 4 := (Gs214 64 4 rfl).trans rfl
        have es214_3 : s214 98 16 = s0 98 16 := (Gs214 98 16 rfl).trans rfl
        have es214_4 : s214 10 8 = s0 10 8 := (Gs214 10 8 rfl).trans rfl
        have es214_5 : s214 98 1 = s0 98 1 := (Gs214 98 1 rfl).trans rfl
        refine h_aload_n (pc' := 102) rfl rfl rfl ?_
        refine h_getR (pc' := 105) rfl rfl rfl rfl rfl ?_
        refine h_iload_n (pc' := 106) rfl rfl rfl ?_
        refine h_call (sp := false) (pc' := 109) (M := [(0, .ref 79), (1, .int z2)]) rfl rfl rfl rfl rfl rfl rfl rfl ?_
        refine h_aload_n (pc' := 1) rfl rfl rfl ?_
        refine h_iload_n (pc' := 2) rfl rfl rfl ?_
        refine h_sipush (pc' := 5) (x := (Int32.ofInt 999)) rfl rfl cs_999 ?_
        refine h_call (sp := false) (pc' := 8) (M := [(0, .ref 79), (1, .int z2), (2, .int (Int32.ofInt 999))]) rfl rfl rfl rfl rfl rfl rfl rfl ?_
        refine n_wiX _ Is214 z2 _ hz2 (by omega) (Int32.ofInt 999) _ ci_999 (fun r215 br215 hr215 ps216_0 => h_Kv ?_)
        have kr215 := hr215
        refine h_iret rfl rfl (h_Kv ?_)
        refine h_iret rfl rfl (h_Kv ?_)
        clear hz2 hz4
        refine h_aload_n (pc' := 322) rfl rfl rfl ?_
        refine h_aload_n (pc' := 323) rfl rfl rfl ?_
        refine h_iload_n (pc' := 324) rfl rfl rfl ?_
        refine h_iconst (pc' := 325) (x := (Int32.ofInt 1)) rfl rfl rfl ?_
        refine h_iadd (pc' := 326) rfl rfl hy3 ci_1 rfl (by omega) (by omega) (fun z217 hz217 => ?_)
        refine h_iald (pc' := 327) (v := s0 0 (b3 + 1)) rfl rfl rfl hz217 (by omega) (by omega) (Zs214 _) (fun z218 hz218 => ?_)
        have tz218 := h_rgv hz218
        clear hz217
        refine h_aload_n (pc' := 328) rfl rfl rfl ?_
        refine h_iload_n (pc' := 329) rfl rfl rfl ?_
        refine h_iconst (pc' := 330) (x := (Int32.ofInt 2)) rfl rfl rfl ?_
        refine h_iadd (pc' := 331) rfl rfl hy3 ci_2 rfl (by omega) (by omega) (fun z219 hz219 => ?_)
        refine h_iald (pc' := 332) (v := s0 0 (b3 + 2)) rfl rfl rfl hz219 (by omega) (by omega) (Zs214 _) (fun z220 hz220 => ?_)
        have tz220 := h_rgv hz220
        clear hz219
        refine h_call (sp := false) (pc' := 335) (M := [(0, .ref 98), (1, .int z218), (2, .int z220)]) rfl rfl rfl rfl rfl rfl rfl rfl ?_
        refine h_aload_n (pc' := 1) rfl rfl rfl ?_
        refine h_iload_n (pc' := 2) rfl rfl rfl ?_
        refine h_call (sp := false) (pc' := 5) (M := [(0, .ref 98), (1, .int z218)]) rfl rfl rfl rfl rfl rfl rfl rfl ?_
        refine h_iload_n (pc' := 1) rfl rfl rfl ?_
        refine h_i2l (pc' := 2) rfl rfl hz218 (fun z221 hz221 => ?_)
        refine h_lconst (pc' := 3) (x := (Int64.ofInt 0)) rfl rfl rfl ?_
        refine h_aload_n (pc' := 4) rfl rfl rfl ?_
        refine h_getI (pc' := 7) (v := s0 98 1) rfl rfl rfl rfl rfl es214_5 (fun z222 hz222 => ?_)
        have tz222 := tf_98_1 I0
        refine h_iconst (pc' := 8) (x := (Int32.ofInt 1)) rfl rfl rfl ?_
        refine h_isub (pc' := 9) rfl rfl hz222 ci_1 rfl (by omega) (by omega) (fun z223 hz223 => ?_)
        clear hz222
        refine h_i2l (pc' := 10) rfl rfl hz223 (fun z224 hz224 => ?_)
        clear hz223
        refine h_calls (pc' := 13) (M := [(0, .long z221), (2, .long (Int64.ofInt 0)), (4, .long z224)]) rfl rfl rfl rfl rfl rfl ?_
        refine h_lload_n (pc' := 1) rfl rfl rfl ?_
        refine h_lload_n (pc' := 2) rfl rfl rfl ?_
        refine h_lcmp (pc' := 3) rfl rfl hz221 cl_0 (fun z225 hz225 => ?_)
        refine h_zlt (tg := 17) (pc' := 6) rfl rfl rfl rfl (fun c226 => absurd c226 (by omega)) (fun c226 => ?_)
        replace c226 := (h_lcr hz225).2.1 c226
        clear hz225
        refine h_lload_n (pc' := 7) rfl rfl rfl ?_
        refine h_lload (pc' := 9) rfl rfl rfl ?_
        refine h_lcmp (pc' := 10) rfl rfl hz221 hz224 (fun z227 hz227 => ?_)
        refine h_zgt (tg := 17) (pc' := 13) rfl rfl rfl rfl (fun c228 => absurd c228 (by omega)) (fun c228 => ?_)
        replace c228 := (h_lcr hz227).2.2.1 c228
        clear hz227
        refine h_iconst (pc' := 14) (x := (Int32.ofInt 1)) rfl rfl rfl ?_
        refine h_goto (pc' := 18) rfl rfl ?_
        refine h_zret rfl rfl ci_1 (by omega) (h_Kv ?_)
        clear hz221 hz224
        refine h_zret rfl rfl ci_1 (by omega) (h_Kv ?_)
        refine h_zne (tg := 10) (pc' := 8) rfl rfl rfl ci_1 (fun c229 => ?_) (fun c229 => absurd c229 (by omega))
        refine h_aload_n (pc' := 11) rfl rfl rfl ?_
        refine h_iconst (pc' := 12) (x := (Int32.ofInt 0)) rfl rfl rfl ?_
        refine h_call (sp := false) (pc' := 15) (M := [(0, .ref 98), (1, .int (Int32.ofInt 0))]) rfl rfl rfl rfl rfl rfl rfl rfl ?_
        refine n_lays _ Is214  (fun s231 Is231 Gs231 ps231_0 => h_Kn ?_)
        have Zs231 : ∀ i, s231 0 i = s0 0 i := fun i => (Gs231 0 i rfl).trans (Zs214 i)
        have Fs231 : h_F (fun _ _ => true) s231 s0 := fun _ _ h => by cases h
        have es231_0 : s231 64 1 = s0 64 1 := (Gs231 64 1 rfl).trans es214_0
        have es231_1 : s231 98 11 = s0 98 11 := (Gs231 98 11 rfl).trans es214_1
        have es231_2 : s231 64 4 = s0 64 4 := (Gs231 64 4 rfl).trans es214_2
        have es231_3 : s231 98 16 = s0 98 16 := (Gs231 98 16 rfl).trans es214_3
        have es231_4 : s231 10 8 = s0 10 8 := (Gs231 10 8 rfl).trans es214_4
        have es231_5 : s231 98 1 = s0 98 1 := (Gs231 98 1 rfl).trans es214_5
        refine h_iload_n (pc' := 16) rfl rfl rfl ?_
        refine h_tsw (dt := 96) (ts := [52, 59, 72, 84, 90]) rfl rfl rfl rfl hz220 (fun c232 => absurd c232 (by omega)) ⟨fun c232 => absurd c232 (by omega), fun c232 => absurd c232 (by omega), fun c232 => absurd c232 (by omega), fun c232 => absurd c232 (by omega), fun c232 => ?_, trivial⟩
        refine h_aload_n (pc' := 91) rfl rfl rfl ?_
        refine h_iload_n (pc' := 92) rfl rfl rfl ?_
        refine h_call (sp := false) (pc' := 95) (M := [(0, .ref 98), (1, .int z218)]) rfl rfl rfl rfl rfl rfl rfl rfl ?_
        refine n_liM _ Is231 z218 _ hz218 (by omega) (fun r233 br233 hr233 ps234_0 => h_Kv ?_)
        have kr233 := hr233
        refine h_iret rfl rfl (h_Kv ?_)
        clear hz218 hz220
        refine h_ceq (tg := 1441) (pc' := 338) rfl rfl rfl hr215 hr233 (fun c235 => ?_) (fun c235 => ?_)
        · clear hr215 hr233
          exact kk _ Is231 (by first | exact d_tape.le j0 (Int.le_antisymm (by omega) (by omega)) (by omega) (fun j => (Gs231 65 j rfl).trans ((Gs214 65 j rfl))) (fun j => (Gs231 102 j rfl).trans ((Gs214 102 j rfl))) | (exfalso; omega)) (Int.le_antisymm (by omega) (by omega)) (c_R.fr (c_R.fr j2 I0 Gs214 rfl) Is214 Gs231 rfl) (g_ti.e j3 ((funext (fun j => Gs231 100 j rfl)).trans (funext (fun j => Gs214 100 j rfl))))
        · clear hr215 hr233
          refine h_iconst (pc' := 339) (x := (Int32.ofInt 0)) rfl rfl rfl ?_
          first | have gp := j2.ps (j := s0 0 (b3 + 1)) (by omega) (by omega) | skip
          have gw := ty_11 I0 (s0 0 (b3 + 1))
          first | have gt := j3 (s0 99 (s0 0 (b3 + 1))) (by omega) (by omega) | skip
          first | have gv := g_tie_v (k := s0 99 (s0 0 (b3 + 1))) (by omega) (by omega) | skip
          have g1 : s231 99 (s0 0 (b3 + 1)) = s0 99 (s0 0 (b3 + 1)) := congrFun ((funext (fun j => Gs231 99 j rfl)).trans (funext (fun j => Gs214 99 j rfl))) _
          have g2 : s231 99 (6 + (s0 0 (b3 + 1))) = s0 99 (6 + (s0 0 (b3 + 1))) := congrFun ((funext (fun j => Gs231 99 j rfl)).trans (funext (fun j => Gs214 99 j rfl))) _
          have g3 : s231 100 (s231 99 (s0 0 (b3 + 1))) = s0 100 (s0 99 (s0 0 (b3 + 1))) := (congrFun ((funext (fun j => Gs231 100 j rfl)).trans (funext (fun j => Gs214 100 j rfl))) _).trans (congrArg (s0 100) (congrFun ((funext (fun j => Gs231 99 j rfl)).trans (funext (fun j => Gs214 99 j rfl))) _))
          have gd := c_R.deg j2 I0 j3 (g_DX_t ps214_0 rfl rfl rfl rfl rfl rfl) (g_DM_t ps231_0 (Gs214 98 1 rfl) (Gs214 99 18 rfl) (funext (fun j => Gs214 99 j rfl)) (funext (fun j => Gs214 100 j rfl)))
          have gc := congrArg Int32.toInt (ps216_0.trans ((gd.li (p := s0 0 (b3 + 1)) (by omega) (by omega) (by omega) (by omega)).trans ps234_0.symm))
          exfalso
          omega
