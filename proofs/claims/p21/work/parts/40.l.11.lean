set_option maxHeartbeats 100000000 in
theorem g_case_759 {ns : Nat} (hns : ns ≤ 320) (s0 : h_S) (I0 : h_I s0) (j0 : d_tape s0 s0) (j1 : s0 64 4 = s0 98 16) (j2 : c_R true s0) (j3 : g_ti s0) (j4 : g_SH s0) (y3 : Int32) (b3 : Int) (hy3 : y3.toInt = b3) (hr : 0 ≤ b3 ∧ b3 + 5 ≤ ns) {Q : Option Value → h_S → Prop} (kk : ∀ τ, h_I τ → (d_tape τ τ) → (τ 64 4 = τ 98 16) → (c_R true τ) → (g_ti τ) → (g_SH τ) → h_T g_P (g_Y ns) 225 1441 [(0, .ref 0), (1, .ref 9), (2, .ref 98), (3, .int y3)] [] τ Q) : h_T g_P (g_Y ns) 225 759 [(0, .ref 0), (1, .ref 9), (2, .ref 98), (3, .int y3)] [] s0 Q := by
  have F0_ : h_F (fun _ _ => true) s0 s0 := h_F.rf
  have j0_ := j0.2
  have i0 := tf_64_1 I0
  have i1 := tf_98_11 I0
  have i2 := tf_64_4 I0
  have i3 := tf_98_16 I0
  refine h_aload_n (pc' := 760) rfl rfl rfl ?_
  refine h_aload_n (pc' := 761) rfl rfl rfl ?_
  refine h_iload_n (pc' := 762) rfl rfl rfl ?_
  refine h_iconst (pc' := 763) (x := (Int32.ofInt 1)) rfl rfl rfl ?_
  refine h_iadd (pc' := 764) rfl rfl hy3 ci_1 rfl (by omega) (by omega) (fun z1 hz1 => ?_)
  refine h_iald (pc' := 765) (v := s0 0 (b3 + 1)) rfl rfl rfl hz1 (by omega) (by omega) rfl (fun z2 hz2 => ?_)
  have tz2 := h_rgv hz2
  clear hz1
  refine h_call (sp := false) (pc' := 768) (M := [(0, .ref 9), (1, .int z2)]) rfl rfl rfl rfl rfl rfl rfl rfl ?_
  refine h_iload_n (pc' := 1) rfl rfl rfl ?_
  refine h_zlt (tg := 9) (pc' := 4) rfl rfl rfl hz2 (fun c3 => ?_) (fun c3 => ?_)
  · refine h_iconst (pc' := 10) (x := (Int32.ofInt (-1))) rfl rfl rfl ?_
    refine h_iret rfl rfl (h_Kv ?_)
    clear hz2
    refine h_aload_n (pc' := 769) rfl rfl rfl ?_
    refine h_aload_n (pc' := 770) rfl rfl rfl ?_
    refine h_iload_n (pc' := 771) rfl rfl rfl ?_
    refine h_iconst (pc' := 772) (x := (Int32.ofInt 1)) rfl rfl rfl ?_
    refine h_iadd (pc' := 773) rfl rfl hy3 ci_1 rfl (by omega) (by omega) (fun z4 hz4 => ?_)
    refine h_iald (pc' := 774) (v := s0 0 (b3 + 1)) rfl rfl rfl hz4 (by omega) (by omega) rfl (fun z5 hz5 => ?_)
    have tz5 := h_rgv hz5
    clear hz4
    refine h_call (sp := false) (pc' := 777) (M := [(0, .ref 98), (1, .int z5)]) rfl rfl rfl rfl rfl rfl rfl rfl ?_
    refine h_iload_n (pc' := 1) rfl rfl rfl ?_
    refine h_i2l (pc' := 2) rfl rfl hz5 (fun z6 hz6 => ?_)
    refine h_lconst (pc' := 3) (x := (Int64.ofInt 0)) rfl rfl rfl ?_
    refine h_ldc2 (pc' := 6) (x := (Int64.ofInt 3)) rfl rfl rfl ?_
    refine h_calls (pc' := 9) (M := [(0, .long z6), (2, .long (Int64.ofInt 0)), (4, .long (Int64.ofInt 3))]) rfl rfl rfl rfl rfl rfl ?_
    refine h_lload_n (pc' := 1) rfl rfl rfl ?_
    refine h_lload_n (pc' := 2) rfl rfl rfl ?_
    refine h_lcmp (pc' := 3) rfl rfl hz6 cl_0 (fun z7 hz7 => ?_)
    refine h_zlt (tg := 17) (pc' := 6) rfl rfl rfl rfl (fun c8 => ?_) (fun c8 => absurd c8 (by omega))
    replace c8 := (h_lcr hz7).1 c8
    clear hz7
    refine h_iconst (pc' := 18) (x := (Int32.ofInt 0)) rfl rfl rfl ?_
    refine h_zret rfl rfl ci_0 (by omega) (h_Kv ?_)
    clear hz6
    refine h_zne (tg := 14) (pc' := 12) rfl rfl rfl ci_0 (fun c9 => absurd (Int.le_antisymm (by omega) (by omega)) c9) (fun c9 => ?_)
    refine h_iconst (pc' := 13) (x := (Int32.ofInt (-1))) rfl rfl rfl ?_
    refine h_iret rfl rfl (h_Kv ?_)
    clear hz5
    refine h_ceq (tg := 1441) (pc' := 780) rfl rfl rfl ci_m1 ci_m1 (fun c10 => ?_) (fun c10 => absurd (Int.le_antisymm (by omega) (by omega)) c10)
    exact kk _ I0 (by first | exact d_tape.le j0 (Int.le_antisymm (by omega) (by omega)) (by omega) (fun j => rfl) (fun j => rfl) | (exfalso; omega)) (Int.le_antisymm (by omega) (by omega)) j2 (g_ti.e j3 rfl) (g_SH.e j4 rfl rfl rfl rfl rfl rfl)
  · refine h_iload_n (pc' := 5) rfl rfl rfl ?_
    refine h_iconst (pc' := 6) (x := (Int32.ofInt 3)) rfl rfl rfl ?_
    refine h_cle (tg := 11) (pc' := 9) rfl rfl rfl hz2 ci_3 (fun c11 => ?_) (fun c11 => ?_)
    · refine h_aload_n (pc' := 12) rfl rfl rfl ?_
      refine h_aload_n (pc' := 13) rfl rfl rfl ?_
      refine h_getR (pc' := 16) rfl rfl rfl rfl rfl ?_
      refine h_call (sp := false) (pc' := 19) (M := [(0, .ref 9), (1, .ref 10)]) rfl rfl rfl rfl rfl rfl rfl rfl ?_
      refine h_aload_n (pc' := 1) rfl rfl rfl ?_
      refine h_getR (pc' := 4) rfl rfl rfl rfl rfl ?_
      refine h_aload_n (pc' := 5) rfl rfl rfl ?_
      refine h_call (sp := false) (pc' := 8) (M := [(0, .ref 79), (1, .ref 10)]) rfl rfl rfl rfl rfl rfl rfl rfl ?_
      refine n_measure_10 _ I0  (fun s13 Is13 Gs13 ps13_0 ps13_1 ps13_2 => h_Kn ?_)
      have Zs13 : ∀ i, s13 0 i = s0 0 i := fun i => (Gs13 0 i rfl).trans rfl
      have Fs13 : h_F (fun _ _ => true) s13 s0 := fun _ _ h => by cases h
      have es13_0 : s13 64 1 = s0 64 1 := (Gs13 64 1 rfl).trans rfl
      have es13_1 : s13 98 11 = s0 98 11 := (Gs13 98 11 rfl).trans rfl
      have es13_2 : s13 64 4 = s0 64 4 := (Gs13 64 4 rfl).trans rfl
      have es13_3 : s13 98 16 = s0 98 16 := (Gs13 98 16 rfl).trans rfl
      refine h_aload_n (pc' := 9) rfl rfl rfl ?_
      refine h_getR (pc' := 12) rfl rfl rfl rfl rfl ?_
      refine h_aload_n (pc' := 13) rfl rfl rfl ?_
      refine h_aload_n (pc' := 14) rfl rfl rfl ?_
      refine h_getR (pc' := 17) rfl rfl rfl rfl rfl ?_
      refine h_call (sp := false) (pc' := 20) (M := [(0, .ref 82), (1, .ref 10), (2, .ref 79)]) rfl rfl rfl rfl rfl rfl rfl rfl ?_
      refine n_open_10 _ Is13  (fun s15 Is15 Gs15 ps15_0 => h_Kn ?_)
      have Zs15 : ∀ i, s15 0 i = s0 0 i := fun i => (Gs15 0 i rfl).trans (Zs13 i)
      have Fs15 : h_F (fun _ _ => true) s15 s0 := fun _ _ h => by cases h
      have es15_0 : s15 64 1 = s0 64 1 := (Gs15 64 1 rfl).trans es13_0
      have es15_1 : s15 98 11 = s0 98 11 := (Gs15 98 11 rfl).trans es13_1
      have es15_2 : s15 64 4 = s0 64 4 := (Gs15 64 4 rfl).trans es13_2
      have es15_3 : s15 98 16 = s0 98 16 := (Gs15 98 16 rfl).trans es13_3
      refine h_vret rfl rfl (h_Kn ?_)
      refine h_aload_n (pc' := 20) rfl rfl rfl ?_
      refine h_getR (pc' := 23) rfl rfl rfl rfl rfl ?_
      refine h_aload_n (pc' := 24) rfl rfl rfl ?_
      refine h_getR (pc' := 27) rfl rfl rfl rfl rfl ?_
      refine h_iconst (pc' := 28) (x := (Int32.ofInt 0)) rfl rfl rfl ?_
      refine h_call (sp := false) (pc' := 31) (M := [(0, .ref 82), (1, .ref 10), (2, .int (Int32.ofInt 0))]) rfl rfl rfl rfl rfl rfl rfl rfl ?_
      refine n_run_10 _ Is15 (Int32.ofInt 0) _ ci_0 (g_op_t ps15_0 (ps13_1.trans ((Gs15 10 8 rfl).trans (Gs13 10 8 rfl)).symm) (funext (fun j => Gs15 80 j rfl)).symm (funext (fun j => Gs15 81 j rfl)).symm (funext (fun j => Gs15 19 j rfl)).symm (Gs15 10 9 rfl).symm rfl) (c_R.runl j2 ((Gs15 10 8 rfl).trans (Gs13 10 8 rfl)) ((Gs15 10 9 rfl).trans (Gs13 10 9 rfl)) ((funext (fun j => Gs15 20 j rfl)).trans (funext (fun j => Gs13 20 j rfl)))) (c_R.runp j2 ((Gs15 10 8 rfl).trans (Gs13 10 8 rfl)) ((Gs15 10 9 rfl).trans (Gs13 10 9 rfl)) ((Gs15 10 10 rfl).trans (Gs13 10 10 rfl)) ((funext (fun j => Gs15 22 j rfl)).trans (funext (fun j => Gs13 22 j rfl)))) (fun r16 br16 hr16 s17 Is17 Gs17 ps17_0 => h_Kv ?_)
      have Zs17 : ∀ i, s17 0 i = s0 0 i := fun i => (Gs17 0 i rfl).trans (Zs15 i)
      have Fs17 : h_F (fun _ _ => true) s17 s0 := fun _ _ h => by cases h
      have es17_0 : s17 64 1 = s0 64 1 := (Gs17 64 1 rfl).trans es15_0
      have es17_1 : s17 98 11 = s0 98 11 := (Gs17 98 11 rfl).trans es15_1
      have es17_2 : s17 64 4 = s0 64 4 := (Gs17 64 4 rfl).trans es15_2
      have es17_3 : s17 98 16 = s0 98 16 := (Gs17 98 16 rfl).trans es15_3
      refine h_istore_n (pc' := 32) (M := [(2, .int r16), (0, .ref 9), (1, .int z2)]) rfl rfl rfl rfl ?_
      refine h_iload_n (pc' := 33) rfl rfl rfl ?_
      refine h_tsw (dt := 75) (ts := [60, 62, 67]) rfl rfl rfl rfl hz2 (fun c18 => ?_) ⟨fun c18 => ?_, fun c18 => ?_, fun c18 => ?_, trivial⟩
      · refine h_aload_n (pc' := 76) rfl rfl rfl ?_
        refine h_iload_n (pc' := 77) rfl rfl rfl ?_
        refine h_call (sp := false) (pc' := 80) (M := [(0, .ref 9), (1, .int r16)]) rfl rfl rfl rfl rfl rfl rfl rfl ?_
        refine n_fsX _ Is17 r16 _ hr16 (fun r19 br19 hr19 tr19 ps20_0 => h_Kv ?_)
        refine h_iret rfl rfl (h_Kv ?_)
        clear hz2
        refine h_aload_n (pc' := 769) rfl rfl rfl ?_
        refine h_aload_n (pc' := 770) rfl rfl rfl ?_
        refine h_iload_n (pc' := 771) rfl rfl rfl ?_
        refine h_iconst (pc' := 772) (x := (Int32.ofInt 1)) rfl rfl rfl ?_
        refine h_iadd (pc' := 773) rfl rfl hy3 ci_1 rfl (by omega) (by omega) (fun z21 hz21 => ?_)
        refine h_iald (pc' := 774) (v := s0 0 (b3 + 1)) rfl rfl rfl hz21 (by omega) (by omega) (Zs17 _) (fun z22 hz22 => ?_)
        have tz22 := h_rgv hz22
        clear hz21
        refine h_call (sp := false) (pc' := 777) (M := [(0, .ref 98), (1, .int z22)]) rfl rfl rfl rfl rfl rfl rfl rfl ?_
        refine h_iload_n (pc' := 1) rfl rfl rfl ?_
        refine h_i2l (pc' := 2) rfl rfl hz22 (fun z23 hz23 => ?_)
        refine h_lconst (pc' := 3) (x := (Int64.ofInt 0)) rfl rfl rfl ?_
        refine h_ldc2 (pc' := 6) (x := (Int64.ofInt 3)) rfl rfl rfl ?_
        refine h_calls (pc' := 9) (M := [(0, .long z23), (2, .long (Int64.ofInt 0)), (4, .long (Int64.ofInt 3))]) rfl rfl rfl rfl rfl rfl ?_
        refine h_lload_n (pc' := 1) rfl rfl rfl ?_
        refine h_lload_n (pc' := 2) rfl rfl rfl ?_
        refine h_lcmp (pc' := 3) rfl rfl hz23 cl_0 (fun z24 hz24 => ?_)
        refine h_zlt (tg := 17) (pc' := 6) rfl rfl rfl rfl (fun c25 => absurd c25 (by omega)) (fun c25 => ?_)
        replace c25 := (h_lcr hz24).2.1 c25
        clear hz24
        refine h_lload_n (pc' := 7) rfl rfl rfl ?_
        refine h_lload (pc' := 9) rfl rfl rfl ?_
        refine h_lcmp (pc' := 10) rfl rfl hz23 cl_3 (fun z26 hz26 => ?_)
        refine h_zgt (tg := 17) (pc' := 13) rfl rfl rfl rfl (fun c27 => absurd c27 (by omega)) (fun c27 => ?_)
        replace c27 := (h_lcr hz26).2.2.1 c27
        clear hz26
        refine h_iconst (pc' := 14) (x := (Int32.ofInt 1)) rfl rfl rfl ?_
        refine h_goto (pc' := 18) rfl rfl ?_
        refine h_zret rfl rfl ci_1 (by omega) (h_Kv ?_)
        clear hz23
        refine h_zne (tg := 14) (pc' := 12) rfl rfl rfl ci_1 (fun c28 => ?_) (fun c28 => absurd c28 (by omega))
        refine h_aload_n (pc' := 15) rfl rfl rfl ?_
        refine h_iconst (pc' := 16) (x := (Int32.ofInt 0)) rfl rfl rfl ?_
        refine h_iconst (pc' := 17) (x := (Int32.ofInt 0)) rfl rfl rfl ?_
        refine h_call (sp := false) (pc' := 20) (M := [(0, .ref 98), (1, .int (Int32.ofInt 0)), (2, .int (Int32.ofInt 0))]) rfl rfl rfl rfl rfl rfl rfl rfl ?_
        refine n_plan0 _ Is17  (Int32.ofInt 0) _ ci_0 (c_R.runm j2 I0 ((funext (fun j => Gs17 99 j rfl)).trans ((funext (fun j => Gs15 99 j rfl)).trans (funext (fun j => Gs13 99 j rfl))))) (fun s30 Is30 Gs30 ps30_0 ps30_1 => h_Kn ?_)
        have Zs30 : ∀ i, s30 0 i = s0 0 i := fun i => (Gs30 0 i rfl).trans (Zs17 i)
        have Fs30 : h_F (fun _ _ => true) s30 s0 := fun _ _ h => by cases h
        have es30_0 : s30 64 1 = s0 64 1 := (Gs30 64 1 rfl).trans es17_0
        have es30_1 : s30 98 11 = s0 98 11 := (Gs30 98 11 rfl).trans es17_1
        have es30_2 : s30 64 4 = s0 64 4 := (Gs30 64 4 rfl).trans es17_2
        have es30_3 : s30 98 16 = s0 98 16 := (Gs30 98 16 rfl).trans es17_3
        refine h_iload_n (pc' := 21) rfl rfl rfl ?_
        refine h_zne (tg := 31) (pc' := 24) rfl rfl rfl hz22 (fun c31 => ?_) (fun c31 => ?_)
        · refine h_iload_n (pc' := 32) rfl rfl rfl ?_
          refine h_iconst (pc' := 33) (x := (Int32.ofInt 1)) rfl rfl rfl ?_
          refine h_cne (tg := 46) (pc' := 36) rfl rfl rfl hz22 ci_1 (fun c32 => ?_) (fun c32 => ?_)
          · refine h_iload_n (pc' := 47) rfl rfl rfl ?_
            refine h_iconst (pc' := 48) (x := (Int32.ofInt 2)) rfl rfl rfl ?_
            refine h_cne (tg := 58) (pc' := 51) rfl rfl rfl hz22 ci_2 (fun c33 => ?_) (fun c33 => ?_)
            · refine h_aload_n (pc' := 59) rfl rfl rfl ?_
              refine h_call (sp := false) (pc' := 62) (M := [(0, .ref 98)]) rfl rfl rfl rfl rfl rfl rfl rfl ?_
              refine n_fsM _ Is30  (fun r34 br34 hr34 tr34 ps35_0 => h_Kv ?_)
              refine h_iret rfl rfl (h_Kv ?_)
              clear hz22
              refine h_ceq (tg := 1441) (pc' := 780) rfl rfl rfl hr19 hr34 (fun c36 => ?_) (fun c36 => ?_)
              · exact kk _ Is30 (by first | exact d_tape.le j0 (Int.le_antisymm (by omega) (by omega)) (by omega) (fun j => (Gs30 65 j rfl).trans ((Gs17 65 j rfl).trans ((Gs15 65 j rfl).trans ((Gs13 65 j rfl))))) (fun j => (Gs30 102 j rfl).trans ((Gs17 102 j rfl).trans ((Gs15 102 j rfl).trans ((Gs13 102 j rfl))))) | (exfalso; omega)) (Int.le_antisymm (by omega) (by omega)) (c_R.fr (c_R.fr (c_R.fr (c_R.fr j2 I0 Gs13 rfl) Is13 Gs15 rfl) Is15 Gs17 rfl) Is17 Gs30 rfl) (g_ti.e j3 ((funext (fun j => Gs30 100 j rfl)).trans ((funext (fun j => Gs17 100 j rfl)).trans ((funext (fun j => Gs15 100 j rfl)).trans (funext (fun j => Gs13 100 j rfl)))))) (g_SH.e j4 ((funext (fun j => Gs30 94 j rfl)).trans ((funext (fun j => Gs17 94 j rfl)).trans ((funext (fun j => Gs15 94 j rfl)).trans (funext (fun j => Gs13 94 j rfl))))) ((funext (fun j => Gs30 95 j rfl)).trans ((funext (fun j => Gs17 95 j rfl)).trans ((funext (fun j => Gs15 95 j rfl)).trans (funext (fun j => Gs13 95 j rfl))))) ((funext (fun j => Gs30 96 j rfl)).trans ((funext (fun j => Gs17 96 j rfl)).trans ((funext (fun j => Gs15 96 j rfl)).trans (funext (fun j => Gs13 96 j rfl))))) ((funext (fun j => Gs30 111 j rfl)).trans ((funext (fun j => Gs17 111 j rfl)).trans ((funext (fun j => Gs15 111 j rfl)).trans (funext (fun j => Gs13 111 j rfl))))) ((funext (fun j => Gs30 112 j rfl)).trans ((funext (fun j => Gs17 112 j rfl)).trans ((funext (fun j => Gs15 112 j rfl)).trans (funext (fun j => Gs13 112 j rfl))))) ((funext (fun j => Gs30 113 j rfl)).trans ((funext (fun j => Gs17 113 j rfl)).trans ((funext (fun j => Gs15 113 j rfl)).trans (funext (fun j => Gs13 113 j rfl))))))
              · refine h_iconst (pc' := 781) (x := (Int32.ofInt 0)) rfl rfl rfl ?_
                have gr := c_R.runR j2 I0 j3 (g_DX_f (g_DX_t ps13_0 rfl rfl rfl rfl rfl rfl) (funext (fun j => Gs15 80 j rfl))) (g_FX_t ps13_2 rfl rfl rfl rfl (funext (fun j => Gs15 81 j rfl))) ((Gs15 10 8 rfl).trans (Gs13 10 8 rfl)) ((Gs15 10 9 rfl).trans (Gs13 10 9 rfl)) ((Gs15 10 10 rfl).trans (Gs13 10 10 rfl)) ((funext (fun j => Gs15 19 j rfl)).trans (funext (fun j => Gs13 19 j rfl))) ((funext (fun j => Gs15 20 j rfl)).trans (funext (fun j => Gs13 20 j rfl))) ((funext (fun j => Gs15 22 j rfl)).trans (funext (fun j => Gs13 22 j rfl))) ps17_0 Is17 ((Gs17 98 1 rfl).trans ((Gs15 98 1 rfl).trans (Gs13 98 1 rfl))) ((funext (fun j => Gs17 99 j rfl)).trans ((funext (fun j => Gs15 99 j rfl)).trans (funext (fun j => Gs13 99 j rfl)))) ((funext (fun j => Gs17 100 j rfl)).trans ((funext (fun j => Gs15 100 j rfl)).trans (funext (fun j => Gs13 100 j rfl)))) ps30_0 ps30_1 Is30
                have gr2 := gr.2.1
                have gr3 := gr.2.2.2
                have gn : s30 99 43 = s0 10 10 := ((Gs30 99 43 rfl).trans ((Gs17 99 43 rfl).trans ((Gs15 99 43 rfl).trans (Gs13 99 43 rfl)))).trans j2.sz.2.2.1.symm
                have gw : s17 10 10 = s0 10 10 := ((Gs17 10 10 rfl).trans ((Gs15 10 10 rfl).trans (Gs13 10 10 rfl)))
                have gc := ps20_0.trans (Eq.trans (by rw [gr.2.2.1, gw, gn]) ps35_0.symm)
                exfalso
                omega
            · refine h_aload_n (pc' := 52) rfl rfl rfl ?_
              refine h_getI (pc' := 55) (v := s30 98 22) rfl rfl rfl rfl rfl rfl (fun z37 hz37 => ?_)
              have tz37 := tf_98_22 Is30
              refine h_goto (pc' := 62) rfl rfl ?_
              refine h_iret rfl rfl (h_Kv ?_)
              clear hz22
              refine h_ceq (tg := 1441) (pc' := 780) rfl rfl rfl hr19 hz37 (fun c38 => ?_) (fun c38 => ?_)
              · clear hz37
                exact kk _ Is30 (by first | exact d_tape.le j0 (Int.le_antisymm (by omega) (by omega)) (by omega) (fun j => (Gs30 65 j rfl).trans ((Gs17 65 j rfl).trans ((Gs15 65 j rfl).trans ((Gs13 65 j rfl))))) (fun j => (Gs30 102 j rfl).trans ((Gs17 102 j rfl).trans ((Gs15 102 j rfl).trans ((Gs13 102 j rfl))))) | (exfalso; omega)) (Int.le_antisymm (by omega) (by omega)) (c_R.fr (c_R.fr (c_R.fr (c_R.fr j2 I0 Gs13 rfl) Is13 Gs15 rfl) Is15 Gs17 rfl) Is17 Gs30 rfl) (g_ti.e j3 ((funext (fun j => Gs30 100 j rfl)).trans ((funext (fun j => Gs17 100 j rfl)).trans ((funext (fun j => Gs15 100 j rfl)).trans (funext (fun j => Gs13 100 j rfl)))))) (g_SH.e j4 ((funext (fun j => Gs30 94 j rfl)).trans ((funext (fun j => Gs17 94 j rfl)).trans ((funext (fun j => Gs15 94 j rfl)).trans (funext (fun j => Gs13 94 j rfl))))) ((funext (fun j => Gs30 95 j rfl)).trans ((funext (fun j => Gs17 95 j rfl)).trans ((funext (fun j => Gs15 95 j rfl)).trans (funext (fun j => Gs13 95 j rfl))))) ((funext (fun j => Gs30 96 j rfl)).trans ((funext (fun j => Gs17 96 j rfl)).trans ((funext (fun j => Gs15 96 j rfl)).trans (funext (fun j => Gs13 96 j rfl))))) ((funext (fun j => Gs30 111 j rfl)).trans ((funext (fun j => Gs17 111 j rfl)).trans ((funext (fun j => Gs15 111 j rfl)).trans (funext (fun j => Gs13 111 j rfl))))) ((funext (fun j => Gs30 112 j rfl)).trans ((funext (fun j => Gs17 112 j rfl)).trans ((funext (fun j => Gs15 112 j rfl)).trans (funext (fun j => Gs13 112 j rfl))))) ((funext (fun j => Gs30 113 j rfl)).trans ((funext (fun j => Gs17 113 j rfl)).trans ((funext (fun j => Gs15 113 j rfl)).trans (funext (fun j => Gs13 113 j rfl))))))
              · clear hz37
                refine h_iconst (pc' := 781) (x := (Int32.ofInt 0)) rfl rfl rfl ?_
                have gr := c_R.runR j2 I0 j3 (g_DX_f (g_DX_t ps13_0 rfl rfl rfl rfl rfl rfl) (funext (fun j => Gs15 80 j rfl))) (g_FX_t ps13_2 rfl rfl rfl rfl (funext (fun j => Gs15 81 j rfl))) ((Gs15 10 8 rfl).trans (Gs13 10 8 rfl)) ((Gs15 10 9 rfl).trans (Gs13 10 9 rfl)) ((Gs15 10 10 rfl).trans (Gs13 10 10 rfl)) ((funext (fun j => Gs15 19 j rfl)).trans (funext (fun j => Gs13 19 j rfl))) ((funext (fun j => Gs15 20 j rfl)).trans (funext (fun j => Gs13 20 j rfl))) ((funext (fun j => Gs15 22 j rfl)).trans (funext (fun j => Gs13 22 j rfl))) ps17_0 Is17 ((Gs17 98 1 rfl).trans ((Gs15 98 1 rfl).trans (Gs13 98 1 rfl))) ((funext (fun j => Gs17 99 j rfl)).trans ((funext (fun j => Gs15 99 j rfl)).trans (funext (fun j => Gs13 99 j rfl)))) ((funext (fun j => Gs17 100 j rfl)).trans ((funext (fun j => Gs15 100 j rfl)).trans (funext (fun j => Gs13 100 j rfl)))) ps30_0 ps30_1 Is30
                have gr2 := gr.2.1
                have gr3 := gr.2.2.2
                exfalso
                omega
          · refine h_aload_n (pc' := 37) rfl rfl rfl ?_
            refine h_getI (pc' := 40) (v := s30 98 23) rfl rfl rfl rfl rfl rfl (fun z39 hz39 => ?_)
            have tz39 := tf_98_23 Is30
            refine h_calls (pc' := 43) (M := [(0, .int z39)]) rfl rfl rfl rfl rfl rfl ?_
            refine n_b8 _ Is30 z39 _ hz39 (fun r40 br40 hr40 tr40 ps41_0 => h_Kv ?_)
            refine h_goto (pc' := 62) rfl rfl ?_
            refine h_iret rfl rfl (h_Kv ?_)
            clear hz22
            refine h_ceq (tg := 1441) (pc' := 780) rfl rfl rfl hr19 hr40 (fun c42 => ?_) (fun c42 => ?_)
            · exact kk _ Is30 (by first | exact d_tape.le j0 (Int.le_antisymm (by omega) (by omega)) (by omega) (fun j => (Gs30 65 j rfl).trans ((Gs17 65 j rfl).trans ((Gs15 65 j rfl).trans ((Gs13 65 j rfl))))) (fun j => (Gs30 102 j rfl).trans ((Gs17 102 j rfl).trans ((Gs15 102 j rfl).trans ((Gs13 102 j rfl))))) | (exfalso; omega)) (Int.le_antisymm (by omega) (by omega)) (c_R.fr (c_R.fr (c_R.fr (c_R.fr j2 I0 Gs13 rfl) Is13 Gs15 rfl) Is15 Gs17 rfl) Is17 Gs30 rfl) (g_ti.e j3 ((funext (fun j => Gs30 100 j rfl)).trans ((funext (fun j => Gs17 100 j rfl)).trans ((funext (fun j => Gs15 100 j rfl)).trans (funext (fun j => Gs13 100 j rfl)))))) (g_SH.e j4 ((funext (fun j => Gs30 94 j rfl)).trans ((funext (fun j => Gs17 94 j rfl)).trans ((funext (fun j => Gs15 94 j rfl)).trans (funext (fun j => Gs13 94 j rfl))))) ((funext (fun j => Gs30 95 j rfl)).trans ((funext (fun j => Gs17 95 j rfl)).trans ((funext (fun j => Gs15 95 j rfl)).trans (funext (fun j => Gs13 95 j rfl))))) ((funext (fun j => Gs30 96 j rfl)).trans ((funext (fun j => Gs17 96 j rfl)).trans ((funext (fun j => Gs15 96 j rfl)).trans (funext (fun j => Gs13 96 j rfl))))) ((funext (fun j => Gs30 111 j rfl)).trans ((funext (fun j => Gs17 111 j rfl)).trans ((funext (fun j => Gs15 111 j rfl)).trans (funext (fun j => Gs13 111 j rfl))))) ((funext (fun j => Gs30 112 j rfl)).trans ((funext (fun j => Gs17 112 j rfl)).trans ((funext (fun j => Gs15 112 j rfl)).trans (funext (fun j => Gs13 112 j rfl))))) ((funext (fun j => Gs30 113 j rfl)).trans ((funext (fun j => Gs17 113 j rfl)).trans ((funext (fun j => Gs15 113 j rfl)).trans (funext (fun j => Gs13 113 j rfl))))))
            · refine h_iconst (pc' := 781) (x := (Int32.ofInt 0)) rfl rfl rfl ?_
              have gr := c_R.runR j2 I0 j3 (g_DX_f (g_DX_t ps13_0 rfl rfl rfl rfl rfl rfl) (funext (fun j => Gs15 80 j rfl))) (g_FX_t ps13_2 rfl rfl rfl rfl (funext (fun j => Gs15 81 j rfl))) ((Gs15 10 8 rfl).trans (Gs13 10 8 rfl)) ((Gs15 10 9 rfl).trans (Gs13 10 9 rfl)) ((Gs15 10 10 rfl).trans (Gs13 10 10 rfl)) ((funext (fun j => Gs15 19 j rfl)).trans (funext (fun j => Gs13 19 j rfl))) ((funext (fun j => Gs15 20 j rfl)).trans (funext (fun j => Gs13 20 j rfl))) ((funext (fun j => Gs15 22 j rfl)).trans (funext (fun j => Gs13 22 j rfl))) ps17_0 Is17 ((Gs17 98 1 rfl).trans ((Gs15 98 1 rfl).trans (Gs13 98 1 rfl))) ((funext (fun j => Gs17 99 j rfl)).trans ((funext (fun j => Gs15 99 j rfl)).trans (funext (fun j => Gs13 99 j rfl)))) ((funext (fun j => Gs17 100 j rfl)).trans ((funext (fun j => Gs15 100 j rfl)).trans (funext (fun j => Gs13 100 j rfl)))) ps30_0 ps30_1 Is30
              have gr2 := gr.2.1
              have gr3 := gr.2.2.2
              exfalso
              omega
        · refine h_aload_n (pc' := 25) rfl rfl rfl ?_
          refine h_getI (pc' := 28) (v := s30 98 23) rfl rfl rfl rfl rfl rfl (fun z43 hz43 => ?_)
          have tz43 := tf_98_23 Is30
          refine h_goto (pc' := 62) rfl rfl ?_
          refine h_iret rfl rfl (h_Kv ?_)
          clear hz22
          refine h_ceq (tg := 1441) (pc' := 780) rfl rfl rfl hr19 hz43 (fun c44 => ?_) (fun c44 => ?_)
          · exact kk _ Is30 (by first | exact d_tape.le j0 (Int.le_antisymm (by omega) (by omega)) (by omega) (fun j => (Gs30 65 j rfl).trans ((Gs17 65 j rfl).trans ((Gs15 65 j rfl).trans ((Gs13 65 j rfl))))) (fun j => (Gs30 102 j rfl).trans ((Gs17 102 j rfl).trans ((Gs15 102 j rfl).trans ((Gs13 102 j rfl))))) | (exfalso; omega)) (Int.le_antisymm (by omega) (by omega)) (c_R.fr (c_R.fr (c_R.fr (c_R.fr j2 I0 Gs13 rfl) Is13 Gs15 rfl) Is15 Gs17 rfl) Is17 Gs30 rfl) (g_ti.e j3 ((funext (fun j => Gs30 100 j rfl)).trans ((funext (fun j => Gs17 100 j rfl)).trans ((funext (fun j => Gs15 100 j rfl)).trans (funext (fun j => Gs13 100 j rfl)))))) (g_SH.e j4 ((funext (fun j => Gs30 94 j rfl)).trans ((funext (fun j => Gs17 94 j rfl)).trans ((funext (fun j => Gs15 94 j rfl)).trans (funext (fun j => Gs13 94 j rfl))))) ((funext (fun j => Gs30 95 j rfl)).trans ((funext (fun j => Gs17 95 j rfl)).trans ((funext (fun j => Gs15 95 j rfl)).trans (funext (fun j => Gs13 95 j rfl))))) ((funext (fun j => Gs30 96 j rfl)).trans ((funext (fun j => Gs17 96 j rfl)).trans ((funext (fun j => Gs15 96 j rfl)).trans (funext (fun j => Gs13 96 j rfl))))) ((funext (fun j => Gs30 111 j rfl)).trans ((funext (fun j => Gs17 111 j rfl)).trans ((funext (fun j => Gs15 111 j rfl)).trans (funext (fun j => Gs13 111 j rfl))))) ((funext (fun j => Gs30 112 j rfl)).trans ((funext (fun j => Gs17 112 j rfl)).trans ((funext (fun j => Gs15 112 j rfl)).trans (funext (fun j => Gs13 112 j rfl))))) ((funext (fun j => Gs30 113 j rfl)).trans ((funext (fun j => Gs17 113 j rfl)).trans ((funext (fun j => Gs15 113 j rfl)).trans (funext (fun j => Gs13 113 j rfl))))))
          · refine h_iconst (pc' := 781) (x := (Int32.ofInt 0)) rfl rfl rfl ?_
            have gr := c_R.runR j2 I0 j3 (g_DX_f (g_DX_t ps13_0 rfl rfl rfl rfl rfl rfl) (funext (fun j => Gs15 80 j rfl))) (g_FX_t ps13_2 rfl rfl rfl rfl (funext (fun j => Gs15 81 j rfl))) ((Gs15 10 8 rfl).trans (Gs13 10 8 rfl)) ((Gs15 10 9 rfl).trans (Gs13 10 9 rfl)) ((Gs15 10 10 rfl).trans (Gs13 10 10 rfl)) ((funext (fun j => Gs15 19 j rfl)).trans (funext (fun j => Gs13 19 j rfl))) ((funext (fun j => Gs15 20 j rfl)).trans (funext (fun j => Gs13 20 j rfl))) ((funext (fun j => Gs15 22 j rfl)).trans (funext (fun j => Gs13 22 j rfl))) ps17_0 Is17 ((Gs17 98 1 rfl).trans ((Gs15 98 1 rfl).trans (Gs13 98 1 rfl))) ((funext (fun j => Gs17 99 j rfl)).trans ((funext (fun j => Gs15 99 j rfl)).trans (funext (fun j => Gs13 99 j rfl)))) ((funext (fun j => Gs17 100 j rfl)).trans ((funext (fun j => Gs15 100 j rfl)).trans (funext (fun j => Gs13 100 j rfl)))) ps30_0 ps30_1 Is30
            have gr2 := gr.2.1
            have gr3 := gr.2.2.2
            exfalso
            omega
      · refine h_iload_n (pc' := 61) rfl rfl rfl ?_
        refine h_iret rfl rfl (h_Kv ?_)
        clear hz2
        refine h_aload_n (pc' := 769) rfl rfl rfl ?_
        refine h_aload_n (pc' := 770) rfl rfl rfl ?_
        refine h_iload_n (pc' := 771) rfl rfl rfl ?_
        refine h_iconst (pc' := 772) (x := (Int32.ofInt 1)) rfl rfl rfl ?_
        refine h_iadd (pc' := 773) rfl rfl hy3 ci_1 rfl (by omega) (by omega) (fun z45 hz45 => ?_)
        refine h_iald (pc' := 774) (v := s0 0 (b3 + 1)) rfl rfl rfl hz45 (by omega) (by omega) (Zs17 _) (fun z46 hz46 => ?_)
        have tz46 := h_rgv hz46
        clear hz45
        refine h_call (sp := false) (pc' := 777) (M := [(0, .ref 98), (1, .int z46)]) rfl rfl rfl rfl rfl rfl rfl rfl ?_
        refine h_iload_n (pc' := 1) rfl rfl rfl ?_
        refine h_i2l (pc' := 2) rfl rfl hz46 (fun z47 hz47 => ?_)
        refine h_lconst (pc' := 3) (x := (Int64.ofInt 0)) rfl rfl rfl ?_
        refine h_ldc2 (pc' := 6) (x := (Int64.ofInt 3)) rfl rfl rfl ?_
        refine h_calls (pc' := 9) (M := [(0, .long z47), (2, .long (Int64.ofInt 0)), (4, .long (Int64.ofInt 3))]) rfl rfl rfl rfl rfl rfl ?_
        refine h_lload_n (pc' := 1) rfl rfl rfl ?_
        refine h_lload_n (pc' := 2) rfl rfl rfl ?_
        refine h_lcmp (pc' := 3) rfl rfl hz47 cl_0 (fun z48 hz48 => ?_)
        refine h_zlt (tg := 17) (pc' := 6) rfl rfl rfl rfl (fun c49 => absurd c49 (by omega)) (fun c49 => ?_)
        replace c49 := (h_lcr hz48).2.1 c49
        clear hz48
        refine h_lload_n (pc' := 7) rfl rfl rfl ?_
        refine h_lload (pc' := 9) rfl rfl rfl ?_
        refine h_lcmp (pc' := 10) rfl rfl hz47 cl_3 (fun z50 hz50 => ?_)
        refine h_zgt (tg := 17) (pc' := 13) rfl rfl rfl rfl (fun c51 => absurd c51 (by omega)) (fun c51 => ?_)
        replace c51 := (h_lcr hz50).2.2.1 c51
        clear hz50
        refine h_iconst (pc' := 14) (x := (Int32.ofInt 1)) rfl rfl rfl ?_
        refine h_goto (pc' := 18) rfl rfl ?_
        refine h_zret rfl rfl ci_1 (by omega) (h_Kv ?_)
        clear hz47
        refine h_zne (tg := 14) (pc' := 12) rfl rfl rfl ci_1 (fun c52 => ?_) (fun c52 => absurd c52 (by omega))
        refine h_aload_n (pc' := 15) rfl rfl rfl ?_
        refine h_iconst (pc' := 16) (x := (Int32.ofInt 0)) rfl rfl rfl ?_
        refine h_iconst (pc' := 17) (x := (Int32.ofInt 0)) rfl rfl rfl ?_
        refine h_call (sp := false) (pc' := 20) (M := [(0, .ref 98), (1, .int (Int32.ofInt 0)), (2, .int (Int32.ofInt 0))]) rfl rfl rfl rfl rfl rfl rfl rfl ?_
        refine n_plan0 _ Is17  (Int32.ofInt 0) _ ci_0 (c_R.runm j2 I0 ((funext (fun j => Gs17 99 j rfl)).trans ((funext (fun j => Gs15 99 j rfl)).trans (funext (fun j => Gs13 99 j rfl))))) (fun s54 Is54 Gs54 ps54_0 ps54_1 => h_Kn ?_)
        have Zs54 : ∀ i, s54 0 i = s0 0 i := fun i => (Gs54 0 i rfl).trans (Zs17 i)
        have Fs54 : h_F (fun _ _ => true) s54 s0 := fun _ _ h => by cases h
        have es54_0 : s54 64 1 = s0 64 1 := (Gs54 64 1 rfl).trans es17_0
        have es54_1 : s54 98 11 = s0 98 11 := (Gs54 98 11 rfl).trans es17_1
        have es54_2 : s54 64 4 = s0 64 4 := (Gs54 64 4 rfl).trans es17_2
        have es54_3 : s54 98 16 = s0 98 16 := (Gs54 98 16 rfl).trans es17_3
        refine h_iload_n (pc' := 21) rfl rfl rfl ?_
        refine h_zne (tg := 31) (pc' := 24) rfl rfl rfl hz46 (fun c55 => absurd (Int.le_antisymm (by omega) (by omega)) c55) (fun c55 => ?_)
        refine h_aload_n (pc' := 25) rfl rfl rfl ?_
        refine h_getI (pc' := 28) (v := s54 98 23) rfl rfl rfl rfl rfl rfl (fun z56 hz56 => ?_)
        have tz56 := tf_98_23 Is54
        refine h_goto (pc' := 62) rfl rfl ?_
        refine h_iret rfl rfl (h_Kv ?_)
        clear hz46
        refine h_ceq (tg := 1441) (pc' := 780) rfl rfl rfl hr16 hz56 (fun c57 => ?_) (fun c57 => ?_)
        · exact kk _ Is54 (by first | exact d_tape.le j0 (Int.le_antisymm (by omega) (by omega)) (by omega) (fun j => (Gs54 65 j rfl).trans ((Gs17 65 j rfl).trans ((Gs15 65 j rfl).trans ((Gs13 65 j rfl))))) (fun j => (Gs54 102 j rfl).trans ((Gs17 102 j rfl).trans ((Gs15 102 j rfl).trans ((Gs13 102 j rfl))))) | (exfalso; omega)) (Int.le_antisymm (by omega) (by omega)) (c_R.fr (c_R.fr (c_R.fr (c_R.fr j2 I0 Gs13 rfl) Is13 Gs15 rfl) Is15 Gs17 rfl) Is17 Gs54 rfl) (g_ti.e j3 ((funext (fun j => Gs54 100 j rfl)).trans ((funext (fun j => Gs17 100 j rfl)).trans ((funext (fun j => Gs15 100 j rfl)).trans (funext (fun j => Gs13 100 j rfl)))))) (g_SH.e j4 ((funext (fun j => Gs54 94 j rfl)).trans ((funext (fun j => Gs17 94 j rfl)).trans ((funext (fun j => Gs15 94 j rfl)).trans (funext (fun j => Gs13 94 j rfl))))) ((funext (fun j => Gs54 95 j rfl)).trans ((funext (fun j => Gs17 95 j rfl)).trans ((funext (fun j => Gs15 95 j rfl)).trans (funext (fun j => Gs13 95 j rfl))))) ((funext (fun j => Gs54 96 j rfl)).trans ((funext (fun j => Gs17 96 j rfl)).trans ((funext (fun j => Gs15 96 j rfl)).trans (funext (fun j => Gs13 96 j rfl))))) ((funext (fun j => Gs54 111 j rfl)).trans ((funext (fun j => Gs17 111 j rfl)).trans ((funext (fun j => Gs15 111 j rfl)).trans (funext (fun j => Gs13 111 j rfl))))) ((funext (fun j => Gs54 112 j rfl)).trans ((funext (fun j => Gs17 112 j rfl)).trans ((funext (fun j => Gs15 112 j rfl)).trans (funext (fun j => Gs13 112 j rfl))))) ((funext (fun j => Gs54 113 j rfl)).trans ((funext (fun j => Gs17 113 j rfl)).trans ((funext (fun j => Gs15 113 j rfl)).trans (funext (fun j => Gs13 113 j rfl))))))
        · refine h_iconst (pc' := 781) (x := (Int32.ofInt 0)) rfl rfl rfl ?_
          have gr := c_R.runR j2 I0 j3 (g_DX_f (g_DX_t ps13_0 rfl rfl rfl rfl rfl rfl) (funext (fun j => Gs15 80 j rfl))) (g_FX_t ps13_2 rfl rfl rfl rfl (funext (fun j => Gs15 81 j rfl))) ((Gs15 10 8 rfl).trans (Gs13 10 8 rfl)) ((Gs15 10 9 rfl).trans (Gs13 10 9 rfl)) ((Gs15 10 10 rfl).trans (Gs13 10 10 rfl)) ((funext (fun j => Gs15 19 j rfl)).trans (funext (fun j => Gs13 19 j rfl))) ((funext (fun j => Gs15 20 j rfl)).trans (funext (fun j => Gs13 20 j rfl))) ((funext (fun j => Gs15 22 j rfl)).trans (funext (fun j => Gs13 22 j rfl))) ps17_0 Is17 ((Gs17 98 1 rfl).trans ((Gs15 98 1 rfl).trans (Gs13 98 1 rfl))) ((funext (fun j => Gs17 99 j rfl)).trans ((funext (fun j => Gs15 99 j rfl)).trans (funext (fun j => Gs13 99 j rfl)))) ((funext (fun j => Gs17 100 j rfl)).trans ((funext (fun j => Gs15 100 j rfl)).trans (funext (fun j => Gs13 100 j rfl)))) ps54_0 ps54_1 Is54
          have gr2 := gr.2.1
          have gr3 := gr.2.2.2
          exfalso
          omega
      · refine h_iload_n (pc' := 63) rfl rfl rfl ?_
        refine h_calls (pc' := 66) (M := [(0, .int r16)]) rfl rfl rfl rfl rfl rfl ?_
        refine n_bc _ Is17 r16 _ hr16 (fun r58 br58 hr58 tr58 ps59_0 => h_Kv ?_)
        have kr58 := hr58
        refine h_iret rfl rfl (h_Kv ?_)
        clear hz2
        refine h_aload_n (pc' := 769) rfl rfl rfl ?_
        refine h_aload_n (pc' := 770) rfl rfl rfl ?_
        refine h_iload_n (pc' := 771) rfl rfl rfl ?_
        refine h_iconst (pc' := 772) (x := (Int32.ofInt 1)) rfl rfl rfl ?_
        refine h_iadd (pc' := 773) rfl rfl hy3 ci_1 rfl (by omega) (by omega) (fun z60 hz60 => ?_)
        refine h_iald (pc' := 774) (v := s0 0 (b3 + 1)) rfl rfl rfl hz60 (by omega) (by omega) (Zs17 _) (fun z61 hz61 => ?_)
        have tz61 := h_rgv hz61
        clear hz60
        refine h_call (sp := false) (pc' := 777) (M := [(0, .ref 98), (1, .int z61)]) rfl rfl rfl rfl rfl rfl rfl rfl ?_
        refine h_iload_n (pc' := 1) rfl rfl rfl ?_
        refine h_i2l (pc' := 2) rfl rfl hz61 (fun z62 hz62 => ?_)
        refine h_lconst (pc' := 3) (x := (Int64.ofInt 0)) rfl rfl rfl ?_
        refine h_ldc2 (pc' := 6) (x := (Int64.ofInt 3)) rfl rfl rfl ?_
        refine h_calls (pc' := 9) (M := [(0, .long z62), (2, .long (Int64.ofInt 0)), (4, .long (Int64.ofInt 3))]) rfl rfl rfl rfl rfl rfl ?_
        refine h_lload_n (pc' := 1) rfl rfl rfl ?_
        refine h_lload_n (pc' := 2) rfl rfl rfl ?_
        refine h_lcmp (pc' := 3) rfl rfl hz62 cl_0 (fun z63 hz63 => ?_)
        refine h_zlt (tg := 17) (pc' := 6) rfl rfl rfl rfl (fun c64 => absurd c64 (by omega)) (fun c64 => ?_)
        replace c64 := (h_lcr hz63).2.1 c64
        clear hz63
        refine h_lload_n (pc' := 7) rfl rfl rfl ?_
        refine h_lload (pc' := 9) rfl rfl rfl ?_
        refine h_lcmp (pc' := 10) rfl rfl hz62 cl_3 (fun z65 hz65 => ?_)
        refine h_zgt (tg := 17) (pc' := 13) rfl rfl rfl rfl (fun c66 => absurd c66 (by omega)) (fun c66 => ?_)
        replace c66 := (h_lcr hz65).2.2.1 c66
        clear hz65
        refine h_iconst (pc' := 14) (x := (Int32.ofInt 1)) rfl rfl rfl ?_
        refine h_goto (pc' := 18) rfl rfl ?_
        refine h_zret rfl rfl ci_1 (by omega) (h_Kv ?_)
        clear hz62
        refine h_zne (tg := 14) (pc' := 12) rfl rfl rfl ci_1 (fun c67 => ?_) (fun c67 => absurd c67 (by omega))
        refine h_aload_n (pc' := 15) rfl rfl rfl ?_
        refine h_iconst (pc' := 16) (x := (Int32.ofInt 0)) rfl rfl rfl ?_
        refine h_iconst (pc' := 17) (x := (Int32.ofInt 0)) rfl rfl rfl ?_
        refine h_call (sp := false) (pc' := 20) (M := [(0, .ref 98), (1, .int (Int32.ofInt 0)), (2, .int (Int32.ofInt 0))]) rfl rfl rfl rfl rfl rfl rfl rfl ?_
        refine n_plan0 _ Is17  (Int32.ofInt 0) _ ci_0 (c_R.runm j2 I0 ((funext (fun j => Gs17 99 j rfl)).trans ((funext (fun j => Gs15 99 j rfl)).trans (funext (fun j => Gs13 99 j rfl))))) (fun s69 Is69 Gs69 ps69_0 ps69_1 => h_Kn ?_)
        have Zs69 : ∀ i, s69 0 i = s0 0 i := fun i => (Gs69 0 i rfl).trans (Zs17 i)
        have Fs69 : h_F (fun _ _ => true) s69 s0 := fun _ _ h => by cases h
        have es69_0 : s69 64 1 = s0 64 1 := (Gs69 64 1 rfl).trans es17_0
        have es69_1 : s69 98 11 = s0 98 11 := (Gs69 98 11 rfl).trans es17_1
        have es69_2 : s69 64 4 = s0 64 4 := (Gs69 64 4 rfl).trans es17_2
        have es69_3 : s69 98 16 = s0 98 16 := (Gs69 98 16 rfl).trans es17_3
        refine h_iload_n (pc' := 21) rfl rfl rfl ?_
        refine h_zne (tg := 31) (pc' := 24) rfl rfl rfl hz61 (fun c70 => ?_) (fun c70 => absurd c70 (by omega))
        refine h_iload_n (pc' := 32) rfl rfl rfl ?_
        refine h_iconst (pc' := 33) (x := (Int32.ofInt 1)) rfl rfl rfl ?_
        refine h_cne (tg := 46) (pc' := 36) rfl rfl rfl hz61 ci_1 (fun c71 => absurd (Int.le_antisymm (by omega) (by omega)) c71) (fun c71 => ?_)
        refine h_aload_n (pc' := 37) rfl rfl rfl ?_
        refine h_getI (pc' := 40) (v := s69 98 23) rfl rfl rfl rfl rfl rfl (fun z72 hz72 => ?_)
        have tz72 := tf_98_23 Is69
        refine h_calls (pc' := 43) (M := [(0, .int z72)]) rfl rfl rfl rfl rfl rfl ?_
        refine n_b8 _ Is69 z72 _ hz72 (fun r73 br73 hr73 tr73 ps74_0 => h_Kv ?_)
        refine h_goto (pc' := 62) rfl rfl ?_
        refine h_iret rfl rfl (h_Kv ?_)
        clear hz61
        refine h_ceq (tg := 1441) (pc' := 780) rfl rfl rfl hr58 hr73 (fun c75 => ?_) (fun c75 => ?_)
        · exact kk _ Is69 (by first | exact d_tape.le j0 (Int.le_antisymm (by omega) (by omega)) (by omega) (fun j => (Gs69 65 j rfl).trans ((Gs17 65 j rfl).trans ((Gs15 65 j rfl).trans ((Gs13 65 j rfl))))) (fun j => (Gs69 102 j rfl).trans ((Gs17 102 j rfl).trans ((Gs15 102 j rfl).trans ((Gs13 102 j rfl))))) | (exfalso; omega)) (Int.le_antisymm (by omega) (by omega)) (c_R.fr (c_R.fr (c_R.fr (c_R.fr j2 I0 Gs13 rfl) Is13 Gs15 rfl) Is15 Gs17 rfl) Is17 Gs69 rfl) (g_ti.e j3 ((funext (fun j => Gs69 100 j rfl)).trans ((funext (fun j => Gs17 100 j rfl)).trans ((funext (fun j => Gs15 100 j rfl)).trans (funext (fun j => Gs13 100 j rfl)))))) (g_SH.e j4 ((funext (fun j => Gs69 94 j rfl)).trans ((funext (fun j => Gs17 94 j rfl)).trans ((funext (fun j => Gs15 94 j rfl)).trans (funext (fun j => Gs13 94 j rfl))))) ((funext (fun j => Gs69 95 j rfl)).trans ((funext (fun j => Gs17 95 j rfl)).trans ((funext (fun j => Gs15 95 j rfl)).trans (funext (fun j => Gs13 95 j rfl))))) ((funext (fun j => Gs69 96 j rfl)).trans ((funext (fun j => Gs17 96 j rfl)).trans ((funext (fun j => Gs15 96 j rfl)).trans (funext (fun j => Gs13 96 j rfl))))) ((funext (fun j => Gs69 111 j rfl)).trans ((funext (fun j => Gs17 111 j rfl)).trans ((funext (fun j => Gs15 111 j rfl)).trans (funext (fun j => Gs13 111 j rfl))))) ((funext (fun j => Gs69 112 j rfl)).trans ((funext (fun j => Gs17 112 j rfl)).trans ((funext (fun j => Gs15 112 j rfl)).trans (funext (fun j => Gs13 112 j rfl))))) ((funext (fun j => Gs69 113 j rfl)).trans ((funext (fun j => Gs17 113 j rfl)).trans ((funext (fun j => Gs15 113 j rfl)).trans (funext (fun j => Gs13 113 j rfl))))))
        · refine h_iconst (pc' := 781) (x := (Int32.ofInt 0)) rfl rfl rfl ?_
          have gr := c_R.runR j2 I0 j3 (g_DX_f (g_DX_t ps13_0 rfl rfl rfl rfl rfl rfl) (funext (fun j => Gs15 80 j rfl))) (g_FX_t ps13_2 rfl rfl rfl rfl (funext (fun j => Gs15 81 j rfl))) ((Gs15 10 8 rfl).trans (Gs13 10 8 rfl)) ((Gs15 10 9 rfl).trans (Gs13 10 9 rfl)) ((Gs15 10 10 rfl).trans (Gs13 10 10 rfl)) ((funext (fun j => Gs15 19 j rfl)).trans (funext (fun j => Gs13 19 j rfl))) ((funext (fun j => Gs15 20 j rfl)).trans (funext (fun j => Gs13 20 j rfl))) ((funext (fun j => Gs15 22 j rfl)).trans (funext (fun j => Gs13 22 j rfl))) ps17_0 Is17 ((Gs17 98 1 rfl).trans ((Gs15 98 1 rfl).trans (Gs13 98 1 rfl))) ((funext (fun j => Gs17 99 j rfl)).trans ((funext (fun j => Gs15 99 j rfl)).trans (funext (fun j => Gs13 99 j rfl)))) ((funext (fun j => Gs17 100 j rfl)).trans ((funext (fun j => Gs15 100 j rfl)).trans (funext (fun j => Gs13 100 j rfl)))) ps69_0 ps69_1 Is69
          have gr2 := gr.2.1
          have gr3 := gr.2.2.2
          have gc := (congrArg Int32.toInt ps59_0).trans ((g_bc_8 gr.2.2.2.2).trans ((congrArg (fun w => g_bn8 w 8) (h_ieq.mpr (gr.2.2.2.1.trans hz72.symm))).trans ps74_0.symm))
          exfalso
          omega
      · refine h_aload_n (pc' := 68) rfl rfl rfl ?_
        refine h_getR (pc' := 71) rfl rfl rfl rfl rfl ?_
        refine h_getI (pc' := 74) (v := s17 82 2) rfl rfl rfl rfl rfl rfl (fun z76 hz76 => ?_)
        have tz76 := tf_82_2 Is17
        refine h_iret rfl rfl (h_Kv ?_)
        clear hz2
        refine h_aload_n (pc' := 769) rfl rfl rfl ?_
        refine h_aload_n (pc' := 770) rfl rfl rfl ?_
        refine h_iload_n (pc' := 771) rfl rfl rfl ?_
        refine h_iconst (pc' := 772) (x := (Int32.ofInt 1)) rfl rfl rfl ?_
        refine h_iadd (pc' := 773) rfl rfl hy3 ci_1 rfl (by omega) (by omega) (fun z77 hz77 => ?_)
        refine h_iald (pc' := 774) (v := s0 0 (b3 + 1)) rfl rfl rfl hz77 (by omega) (by omega) (Zs17 _) (fun z78 hz78 => ?_)
        have tz78 := h_rgv hz78
        clear hz77
        refine h_call (sp := false) (pc' := 777) (M := [(0, .ref 98), (1, .int z78)]) rfl rfl rfl rfl rfl rfl rfl rfl ?_
        refine h_iload_n (pc' := 1) rfl rfl rfl ?_
        refine h_i2l (pc' := 2) rfl rfl hz78 (fun z79 hz79 => ?_)
        refine h_lconst (pc' := 3) (x := (Int64.ofInt 0)) rfl rfl rfl ?_
        refine h_ldc2 (pc' := 6) (x := (Int64.ofInt 3)) rfl rfl rfl ?_
        refine h_calls (pc' := 9) (M := [(0, .long z79), (2, .long (Int64.ofInt 0)), (4, .long (Int64.ofInt 3))]) rfl rfl rfl rfl rfl rfl ?_
        refine h_lload_n (pc' := 1) rfl rfl rfl ?_
        refine h_lload_n (pc' := 2) rfl rfl rfl ?_
        refine h_lcmp (pc' := 3) rfl rfl hz79 cl_0 (fun z80 hz80 => ?_)
        refine h_zlt (tg := 17) (pc' := 6) rfl rfl rfl rfl (fun c81 => absurd c81 (by omega)) (fun c81 => ?_)
        replace c81 := (h_lcr hz80).2.1 c81
        clear hz80
        refine h_lload_n (pc' := 7) rfl rfl rfl ?_
        refine h_lload (pc' := 9) rfl rfl rfl ?_
        refine h_lcmp (pc' := 10) rfl rfl hz79 cl_3 (fun z82 hz82 => ?_)
        refine h_zgt (tg := 17) (pc' := 13) rfl rfl rfl rfl (fun c83 => absurd c83 (by omega)) (fun c83 => ?_)
        replace c83 := (h_lcr hz82).2.2.1 c83
        clear hz82
        refine h_iconst (pc' := 14) (x := (Int32.ofInt 1)) rfl rfl rfl ?_
        refine h_goto (pc' := 18) rfl rfl ?_
        refine h_zret rfl rfl ci_1 (by omega) (h_Kv ?_)
        clear hz79
        refine h_zne (tg := 14) (pc' := 12) rfl rfl rfl ci_1 (fun c84 => ?_) (fun c84 => absurd c84 (by omega))
        refine h_aload_n (pc' := 15) rfl rfl rfl ?_
        refine h_iconst (pc' := 16) (x := (Int32.ofInt 0)) rfl rfl rfl ?_
        refine h_iconst (pc' := 17) (x := (Int32.ofInt 0)) rfl rfl rfl ?_
        refine h_call (sp := false) (pc' := 20) (M := [(0, .ref 98), (1, .int (Int32.ofInt 0)), (2, .int (Int32.ofInt 0))]) rfl rfl rfl rfl rfl rfl rfl rfl ?_
        refine n_plan0 _ Is17  (Int32.ofInt 0) _ ci_0 (c_R.runm j2 I0 ((funext (fun j => Gs17 99 j rfl)).trans ((funext (fun j => Gs15 99 j rfl)).trans (funext (fun j => Gs13 99 j rfl))))) (fun s86 Is86 Gs86 ps86_0 ps86_1 => h_Kn ?_)
        have Zs86 : ∀ i, s86 0 i = s0 0 i := fun i => (Gs86 0 i rfl).trans (Zs17 i)
        have Fs86 : h_F (fun _ _ => true) s86 s0 := fun _ _ h => by cases h
        have es86_0 : s86 64 1 = s0 64 1 := (Gs86 64 1 rfl).trans es17_0
        have es86_1 : s86 98 11 = s0 98 11 := (Gs86 98 11 rfl).trans es17_1
        have es86_2 : s86 64 4 = s0 64 4 := (Gs86 64 4 rfl).trans es17_2
        have es86_3 : s86 98 16 = s0 98 16 := (Gs86 98 16 rfl).trans es17_3
        refine h_iload_n (pc' := 21) rfl rfl rfl ?_
        refine h_zne (tg := 31) (pc' := 24) rfl rfl rfl hz78 (fun c87 => ?_) (fun c87 => absurd c87 (by omega))
        refine h_iload_n (pc' := 32) rfl rfl rfl ?_
        refine h_iconst (pc' := 33) (x := (Int32.ofInt 1)) rfl rfl rfl ?_
        refine h_cne (tg := 46) (pc' := 36) rfl rfl rfl hz78 ci_1 (fun c88 => ?_) (fun c88 => absurd c88 (by omega))
        refine h_iload_n (pc' := 47) rfl rfl rfl ?_
        refine h_iconst (pc' := 48) (x := (Int32.ofInt 2)) rfl rfl rfl ?_
        refine h_cne (tg := 58) (pc' := 51) rfl rfl rfl hz78 ci_2 (fun c89 => absurd (Int.le_antisymm (by omega) (by omega)) c89) (fun c89 => ?_)
        refine h_aload_n (pc' := 52) rfl rfl rfl ?_
        refine h_getI (pc' := 55) (v := s86 98 22) rfl rfl rfl rfl rfl rfl (fun z90 hz90 => ?_)
        have tz90 := tf_98_22 Is86
        refine h_goto (pc' := 62) rfl rfl ?_
        refine h_iret rfl rfl (h_Kv ?_)
        clear hz78
        refine h_ceq (tg := 1441) (pc' := 780) rfl rfl rfl hz76 hz90 (fun c91 => ?_) (fun c91 => ?_)
        · clear hz76 hz90
          exact kk _ Is86 (by first | exact d_tape.le j0 (Int.le_antisymm (by omega) (by omega)) (by omega) (fun j => (Gs86 65 j rfl).trans ((Gs17 65 j rfl).trans ((Gs15 65 j rfl).trans ((Gs13 65 j rfl))))) (fun j => (Gs86 102 j rfl).trans ((Gs17 102 j rfl).trans ((Gs15 102 j rfl).trans ((Gs13 102 j rfl))))) | (exfalso; omega)) (Int.le_antisymm (by omega) (by omega)) (c_R.fr (c_R.fr (c_R.fr (c_R.fr j2 I0 Gs13 rfl) Is13 Gs15 rfl) Is15 Gs17 rfl) Is17 Gs86 rfl) (g_ti.e j3 ((funext (fun j => Gs86 100 j rfl)).trans ((funext (fun j => Gs17 100 j rfl)).trans ((funext (fun j => Gs15 100 j rfl)).trans (funext (fun j => Gs13 100 j rfl)))))) (g_SH.e j4 ((funext (fun j => Gs86 94 j rfl)).trans ((funext (fun j => Gs17 94 j rfl)).trans ((funext (fun j => Gs15 94 j rfl)).trans (funext (fun j => Gs13 94 j rfl))))) ((funext (fun j => Gs86 95 j rfl)).trans ((funext (fun j => Gs17 95 j rfl)).trans ((funext (fun j => Gs15 95 j rfl)).trans (funext (fun j => Gs13 95 j rfl))))) ((funext (fun j => Gs86 96 j rfl)).trans ((funext (fun j => Gs17 96 j rfl)).trans ((funext (fun j => Gs15 96 j rfl)).trans (funext (fun j => Gs13 96 j rfl))))) ((funext (fun j => Gs86 111 j rfl)).trans ((funext (fun j => Gs17 111 j rfl)).trans ((funext (fun j => Gs15 111 j rfl)).trans (funext (fun j => Gs13 111 j rfl))))) ((funext (fun j => Gs86 112 j rfl)).trans ((funext (fun j => Gs17 112 j rfl)).trans ((funext (fun j => Gs15 112 j rfl)).trans (funext (fun j => Gs13 112 j rfl))))) ((funext (fun j => Gs86 113 j rfl)).trans ((funext (fun j => Gs17 113 j rfl)).trans ((funext (fun j => Gs15 113 j rfl)).trans (funext (fun j => Gs13 113 j rfl))))))
        · clear hz76 hz90
          refine h_iconst (pc' := 781) (x := (Int32.ofInt 0)) rfl rfl rfl ?_
          have gr := c_R.runR j2 I0 j3 (g_DX_f (g_DX_t ps13_0 rfl rfl rfl rfl rfl rfl) (funext (fun j => Gs15 80 j rfl))) (g_FX_t ps13_2 rfl rfl rfl rfl (funext (fun j => Gs15 81 j rfl))) ((Gs15 10 8 rfl).trans (Gs13 10 8 rfl)) ((Gs15 10 9 rfl).trans (Gs13 10 9 rfl)) ((Gs15 10 10 rfl).trans (Gs13 10 10 rfl)) ((funext (fun j => Gs15 19 j rfl)).trans (funext (fun j => Gs13 19 j rfl))) ((funext (fun j => Gs15 20 j rfl)).trans (funext (fun j => Gs13 20 j rfl))) ((funext (fun j => Gs15 22 j rfl)).trans (funext (fun j => Gs13 22 j rfl))) ps17_0 Is17 ((Gs17 98 1 rfl).trans ((Gs15 98 1 rfl).trans (Gs13 98 1 rfl))) ((funext (fun j => Gs17 99 j rfl)).trans ((funext (fun j => Gs15 99 j rfl)).trans (funext (fun j => Gs13 99 j rfl)))) ((funext (fun j => Gs17 100 j rfl)).trans ((funext (fun j => Gs15 100 j rfl)).trans (funext (fun j => Gs13 100 j rfl)))) ps86_0 ps86_1 Is86
          have gr2 := gr.2.1
          have gr3 := gr.2.2.2
          exfalso
          omega
    · refine h_iconst (pc' := 10) (x := (Int32.ofInt (-1))) rfl rfl rfl ?_
      refine h_iret rfl rfl (h_Kv ?_)
      clear hz2
      refine h_aload_n (pc' := 769) rfl rfl rfl ?_
      refine h_aload_n (pc' := 770) rfl rfl rfl ?_
      refine h_iload_n (pc' := 771) rfl rfl rfl ?_
      refine h_iconst (pc' := 772) (x := (Int32.ofInt 1)) rfl rfl rfl ?_
      refine h_iadd (pc' := 773) rfl rfl hy3 ci_1 rfl (by omega) (by omega) (fun z92 hz92 => ?_)
      refine h_iald (pc' := 774) (v := s0 0 (b3 + 1)) rfl rfl rfl hz92 (by omega) (by omega) rfl (fun z93 hz93 => ?_)
      have tz93 := h_rgv hz93
      clear hz92
      refine h_call (sp := false) (pc' := 777) (M := [(0, .ref 98), (1, .int z93)]) rfl rfl rfl rfl rfl rfl rfl rfl ?_
      refine h_iload_n (pc' := 1) rfl rfl rfl ?_
      refine h_i2l (pc' := 2) rfl rfl hz93 (fun z94 hz94 => ?_)
      refine h_lconst (pc' := 3) (x := (Int64.ofInt 0)) rfl rfl rfl ?_
      refine h_ldc2 (pc' := 6) (x := (Int64.ofInt 3)) rfl rfl rfl ?_
      refine h_calls (pc' := 9) (M := [(0, .long z94), (2, .long (Int64.ofInt 0)), (4, .long (Int64.ofInt 3))]) rfl rfl rfl rfl rfl rfl ?_
      refine h_lload_n (pc' := 1) rfl rfl rfl ?_
      refine h_lload_n (pc' := 2) rfl rfl rfl ?_
      refine h_lcmp (pc' := 3) rfl rfl hz94 cl_0 (fun z95 hz95 => ?_)
      refine h_zlt (tg := 17) (pc' := 6) rfl rfl rfl rfl (fun c96 => absurd c96 (by omega)) (fun c96 => ?_)
      replace c96 := (h_lcr hz95).2.1 c96
      clear hz95
      refine h_lload_n (pc' := 7) rfl rfl rfl ?_
      refine h_lload (pc' := 9) rfl rfl rfl ?_
      refine h_lcmp (pc' := 10) rfl rfl hz94 cl_3 (fun z97 hz97 => ?_)
      refine h_zgt (tg := 17) (pc' := 13) rfl rfl rfl rfl (fun c98 => ?_) (fun c98 => absurd c98 (by omega))
      replace c98 := (h_lcr hz97).2.2.2.1 c98
      clear hz97
      refine h_iconst (pc' := 18) (x := (Int32.ofInt 0)) rfl rfl rfl ?_
      refine h_zret rfl rfl ci_0 (by omega) (h_Kv ?_)
      clear hz94
      refine h_zne (tg := 14) (pc' := 12) rfl rfl rfl ci_0 (fun c99 => absurd (Int.le_antisymm (by omega) (by omega)) c99) (fun c99 => ?_)
      refine h_iconst (pc' := 13) (x := (Int32.ofInt (-1))) rfl rfl rfl ?_
      refine h_iret rfl rfl (h_Kv ?_)
      clear hz93
      refine h_ceq (tg := 1441) (pc' := 780) rfl rfl rfl ci_m1 ci_m1 (fun c100 => ?_) (fun c100 => absurd (Int.le_antisymm (by omega) (by omega)) c100)
      exact kk _ I0 (by first | exact d_tape.le j0 (Int.le_antisymm (by omega) (by omega)) (by omega) (fun j => rfl) (fun j => rfl) | (exfalso; omega)) (Int.le_antisymm (by omega) (by omega)) j2 (g_ti.e j3 rfl) (g_SH.e j4 rfl rfl rfl rfl rfl rfl)
