set_option maxHeartbeats 100000000 in
theorem g_case_604 {ns : Nat} (hns : ns ≤ 320) (s0 : h_S) (I0 : h_I s0) (j0 : d_tape s0 s0) (j1 : s0 64 4 = s0 98 16) (j2 : c_R true s0) (j3 : g_ti s0) (j4 : g_SH s0) (j5 : s0 90 2 = s0 98 29) (y3 : Int32) (b3 : Int) (hy3 : y3.toInt = b3) (hr : 0 ≤ b3 ∧ b3 + 5 ≤ ns) {Q : Option Value → h_S → Prop} (kk : ∀ τ, h_I τ → (d_tape τ τ) → (τ 64 4 = τ 98 16) → (c_R true τ) → (g_ti τ) → (g_SH τ) → (τ 90 2 = τ 98 29) → h_T g_P (g_Y ns) 225 1441 [(0, .ref 0), (1, .ref 9), (2, .ref 98), (3, .int y3)] [] τ Q) : h_T g_P (g_Y ns) 225 604 [(0, .ref 0), (1, .ref 9), (2, .ref 98), (3, .int y3)] [] s0 Q := by
  have F0_ : h_F (fun _ _ => true) s0 s0 := h_F.rf
  have j0_ := j0.2
  have i0 := tf_64_1 I0
  have i1 := tf_98_11 I0
  have i2 := tf_64_4 I0
  have i3 := tf_98_16 I0
  have i4 := tf_90_2 I0
  have i5 := tf_98_29 I0
  have i6 := tf_13_2 I0
  have i8 := tf_16_2 I0
  have j2_ := j2.sz
  have y18 := ty_99_3 I0 18 (by omega)
  have y25 := ty_99_5 I0 25 (by omega)
  refine h_aload_n (pc' := 605) rfl rfl rfl ?_
  refine h_aload_n (pc' := 606) rfl rfl rfl ?_
  refine h_iload_n (pc' := 607) rfl rfl rfl ?_
  refine h_iconst (pc' := 608) (x := (Int32.ofInt 1)) rfl rfl rfl ?_
  refine h_iadd (pc' := 609) rfl rfl hy3 ci_1 rfl (by omega) (by omega) (fun z1 hz1 => ?_)
  refine h_iald (pc' := 610) (v := s0 0 (b3 + 1)) rfl rfl rfl hz1 (by omega) (by omega) rfl (fun z2 hz2 => ?_)
  have tz2 := h_rgv hz2
  clear hz1
  refine h_aload_n (pc' := 611) rfl rfl rfl ?_
  refine h_iload_n (pc' := 612) rfl rfl rfl ?_
  refine h_iconst (pc' := 613) (x := (Int32.ofInt 2)) rfl rfl rfl ?_
  refine h_iadd (pc' := 614) rfl rfl hy3 ci_2 rfl (by omega) (by omega) (fun z3 hz3 => ?_)
  refine h_iald (pc' := 615) (v := s0 0 (b3 + 2)) rfl rfl rfl hz3 (by omega) (by omega) rfl (fun z4 hz4 => ?_)
  have tz4 := h_rgv hz4
  clear hz3
  refine h_call (sp := false) (pc' := 618) (M := [(0, .ref 9), (1, .int z2), (2, .int z4)]) rfl rfl rfl rfl rfl rfl rfl rfl ?_
  refine h_iload_n (pc' := 1) rfl rfl rfl ?_
  refine h_calls (pc' := 4) (M := [(0, .int z2)]) rfl rfl rfl rfl rfl rfl ?_
  refine h_iload_n (pc' := 1) rfl rfl rfl ?_
  refine h_zeq (tg := 9) (pc' := 4) rfl rfl rfl hz2 (fun c5 => ?_) (fun c5 => ?_)
  · refine h_iconst (pc' := 10) (x := (Int32.ofInt 1)) rfl rfl rfl ?_
    refine h_goto (pc' := 14) rfl rfl ?_
    refine h_zret rfl rfl ci_1 (by omega) (h_Kv ?_)
    refine h_zne (tg := 9) (pc' := 7) rfl rfl rfl ci_1 (fun c6 => ?_) (fun c6 => absurd c6 (by omega))
    refine h_aload_n (pc' := 10) rfl rfl rfl ?_
    refine h_getR (pc' := 13) rfl rfl rfl rfl rfl ?_
    refine h_iload_n (pc' := 14) rfl rfl rfl ?_
    refine h_call (sp := false) (pc' := 17) (M := [(0, .ref 10), (1, .int z2)]) rfl rfl rfl rfl rfl rfl rfl rfl ?_
    refine h_iload_n (pc' := 1) rfl rfl rfl ?_
    refine h_zne (tg := 11) (pc' := 4) rfl rfl rfl hz2 (fun c7 => absurd (Int.le_antisymm (by omega) (by omega)) c7) (fun c7 => ?_)
    refine h_aload_n (pc' := 5) rfl rfl rfl ?_
    refine h_getR (pc' := 8) rfl rfl rfl rfl rfl ?_
    refine h_goto (pc' := 15) rfl rfl ?_
    refine h_aret rfl rfl (h_Kv ?_)
    refine h_astore_n (pc' := 18) (M := [(3, .ref 13), (0, .ref 9), (1, .int z2), (2, .int z4)]) rfl rfl rfl rfl ?_
    refine h_aload_n (pc' := 19) rfl rfl rfl ?_
    refine h_iload_n (pc' := 20) rfl rfl rfl ?_
    refine h_call (sp := false) (pc' := 23) (M := [(0, .ref 13), (1, .int z4)]) rfl rfl rfl rfl rfl rfl rfl rfl ?_
    refine h_iload_n (pc' := 1) rfl rfl rfl ?_
    refine h_zlt (tg := 16) (pc' := 4) rfl rfl rfl hz4 (fun c8 => ?_) (fun c8 => ?_)
    · refine h_iconst (pc' := 17) (x := (Int32.ofInt 0)) rfl rfl rfl ?_
      refine h_zret rfl rfl ci_0 (by omega) (h_Kv ?_)
      refine h_zne (tg := 28) (pc' := 26) rfl rfl rfl ci_0 (fun c9 => absurd (Int.le_antisymm (by omega) (by omega)) c9) (fun c9 => ?_)
      refine h_iconst (pc' := 27) (x := (Int32.ofInt (-1))) rfl rfl rfl ?_
      refine h_iret rfl rfl (h_Kv ?_)
      clear hz2 hz4
      refine h_pop (pc' := 619) rfl rfl rfl ?_
      refine h_aload_n (pc' := 620) rfl rfl rfl ?_
      refine h_aload_n (pc' := 621) rfl rfl rfl ?_
      refine h_iload_n (pc' := 622) rfl rfl rfl ?_
      refine h_iconst (pc' := 623) (x := (Int32.ofInt 1)) rfl rfl rfl ?_
      refine h_iadd (pc' := 624) rfl rfl hy3 ci_1 rfl (by omega) (by omega) (fun z10 hz10 => ?_)
      refine h_iald (pc' := 625) (v := s0 0 (b3 + 1)) rfl rfl rfl hz10 (by omega) (by omega) rfl (fun z11 hz11 => ?_)
      have tz11 := h_rgv hz11
      clear hz10
      refine h_aload_n (pc' := 626) rfl rfl rfl ?_
      refine h_iload_n (pc' := 627) rfl rfl rfl ?_
      refine h_iconst (pc' := 628) (x := (Int32.ofInt 2)) rfl rfl rfl ?_
      refine h_iadd (pc' := 629) rfl rfl hy3 ci_2 rfl (by omega) (by omega) (fun z12 hz12 => ?_)
      refine h_iald (pc' := 630) (v := s0 0 (b3 + 2)) rfl rfl rfl hz12 (by omega) (by omega) rfl (fun z13 hz13 => ?_)
      have tz13 := h_rgv hz13
      clear hz12
      have qz11 : z11 = (Int32.ofInt 0) := h_lit (show z11.toInt = 0 by omega) ci_0
      subst qz11
      refine h_call (sp := false) (pc' := 633) (M := [(0, .ref 98), (1, .int (Int32.ofInt 0)), (2, .int z13)]) rfl rfl rfl rfl rfl rfl rfl rfl ?_
      refine n_undo0 _ I0  z13 _ hz13 (fun r14 br14 hr14 s15 Is15 Gs15 tr14 ps15_0 => h_Kv ?_)
      have Zs15 : ∀ i, s15 0 i = s0 0 i := fun i => (Gs15 0 i rfl).trans rfl
      have Fs15 : h_F (fun _ _ => true) s15 s0 := fun _ _ h => by cases h
      have es15_0 : s15 64 1 = s0 64 1 := (Gs15 64 1 rfl).trans rfl
      have es15_1 : s15 98 11 = s0 98 11 := (Gs15 98 11 rfl).trans rfl
      have es15_2 : s15 64 4 = s0 64 4 := (Gs15 64 4 rfl).trans rfl
      have es15_3 : s15 98 16 = s0 98 16 := (Gs15 98 16 rfl).trans rfl
      have es15_4 : s15 90 2 = s0 90 2 := (Gs15 90 2 rfl).trans rfl
      have es15_5 : s15 98 29 = s0 98 29 := (Gs15 98 29 rfl).trans rfl
      have es15_6 : s15 13 2 = s0 13 2 := (Gs15 13 2 rfl).trans rfl
      have es15_8 : s15 16 2 = s0 16 2 := (Gs15 16 2 rfl).trans rfl
      have es15_9 : s15 99 25 = s0 99 25 := (Gs15 99 25 rfl).trans rfl
      clear hz11 hz13
      refine h_pop (pc' := 634) rfl rfl rfl ?_
      clear hr14
      refine h_goto (pc' := 1441) rfl rfl ?_
      exact kk _ Is15 (by first | exact d_tape.le j0 (Int.le_antisymm (by omega) (by omega)) (by omega) (fun j => (Gs15 65 j rfl)) (fun j => (Gs15 102 j rfl)) | (exfalso; omega)) (Int.le_antisymm (by omega) (by omega)) (by rcases ps15_0 with q | q; (exact c_R.pag j2 I0 Gs15 (c_pg.all (fun j _ _ => q.2.2 _)) rfl); (exfalso; omega)) (g_ti.e j3 (funext (fun j => Gs15 100 j rfl))) (g_SH.e j4 (funext (fun j => Gs15 94 j rfl)) (funext (fun j => Gs15 95 j rfl)) (funext (fun j => Gs15 96 j rfl)) (funext (fun j => Gs15 111 j rfl)) (funext (fun j => Gs15 112 j rfl)) (funext (fun j => Gs15 113 j rfl))) (Int.le_antisymm (by omega) (by omega))
    · refine h_iload_n (pc' := 5) rfl rfl rfl ?_
      refine h_aload_n (pc' := 6) rfl rfl rfl ?_
      refine h_getI (pc' := 9) (v := s0 13 2) rfl rfl rfl rfl rfl rfl (fun z16 hz16 => ?_)
      have tz16 := tf_13_2 I0
      refine h_cge (tg := 16) (pc' := 12) rfl rfl rfl hz4 hz16 (fun c17 => ?_) (fun c17 => ?_)
      · clear hz16
        refine h_iconst (pc' := 17) (x := (Int32.ofInt 0)) rfl rfl rfl ?_
        refine h_zret rfl rfl ci_0 (by omega) (h_Kv ?_)
        refine h_zne (tg := 28) (pc' := 26) rfl rfl rfl ci_0 (fun c18 => absurd (Int.le_antisymm (by omega) (by omega)) c18) (fun c18 => ?_)
        refine h_iconst (pc' := 27) (x := (Int32.ofInt (-1))) rfl rfl rfl ?_
        refine h_iret rfl rfl (h_Kv ?_)
        clear hz2 hz4
        refine h_pop (pc' := 619) rfl rfl rfl ?_
        refine h_aload_n (pc' := 620) rfl rfl rfl ?_
        refine h_aload_n (pc' := 621) rfl rfl rfl ?_
        refine h_iload_n (pc' := 622) rfl rfl rfl ?_
        refine h_iconst (pc' := 623) (x := (Int32.ofInt 1)) rfl rfl rfl ?_
        refine h_iadd (pc' := 624) rfl rfl hy3 ci_1 rfl (by omega) (by omega) (fun z19 hz19 => ?_)
        refine h_iald (pc' := 625) (v := s0 0 (b3 + 1)) rfl rfl rfl hz19 (by omega) (by omega) rfl (fun z20 hz20 => ?_)
        have tz20 := h_rgv hz20
        clear hz19
        refine h_aload_n (pc' := 626) rfl rfl rfl ?_
        refine h_iload_n (pc' := 627) rfl rfl rfl ?_
        refine h_iconst (pc' := 628) (x := (Int32.ofInt 2)) rfl rfl rfl ?_
        refine h_iadd (pc' := 629) rfl rfl hy3 ci_2 rfl (by omega) (by omega) (fun z21 hz21 => ?_)
        refine h_iald (pc' := 630) (v := s0 0 (b3 + 2)) rfl rfl rfl hz21 (by omega) (by omega) rfl (fun z22 hz22 => ?_)
        have tz22 := h_rgv hz22
        clear hz21
        have qz20 : z20 = (Int32.ofInt 0) := h_lit (show z20.toInt = 0 by omega) ci_0
        subst qz20
        refine h_call (sp := false) (pc' := 633) (M := [(0, .ref 98), (1, .int (Int32.ofInt 0)), (2, .int z22)]) rfl rfl rfl rfl rfl rfl rfl rfl ?_
        refine n_undo0 _ I0  z22 _ hz22 (fun r23 br23 hr23 s24 Is24 Gs24 tr23 ps24_0 => h_Kv ?_)
        have Zs24 : ∀ i, s24 0 i = s0 0 i := fun i => (Gs24 0 i rfl).trans rfl
        have Fs24 : h_F (fun _ _ => true) s24 s0 := fun _ _ h => by cases h
        have es24_0 : s24 64 1 = s0 64 1 := (Gs24 64 1 rfl).trans rfl
        have es24_1 : s24 98 11 = s0 98 11 := (Gs24 98 11 rfl).trans rfl
        have es24_2 : s24 64 4 = s0 64 4 := (Gs24 64 4 rfl).trans rfl
        have es24_3 : s24 98 16 = s0 98 16 := (Gs24 98 16 rfl).trans rfl
        have es24_4 : s24 90 2 = s0 90 2 := (Gs24 90 2 rfl).trans rfl
        have es24_5 : s24 98 29 = s0 98 29 := (Gs24 98 29 rfl).trans rfl
        have es24_6 : s24 13 2 = s0 13 2 := (Gs24 13 2 rfl).trans rfl
        have es24_8 : s24 16 2 = s0 16 2 := (Gs24 16 2 rfl).trans rfl
        have es24_9 : s24 99 25 = s0 99 25 := (Gs24 99 25 rfl).trans rfl
        clear hz20 hz22
        refine h_pop (pc' := 634) rfl rfl rfl ?_
        clear hr23
        refine h_goto (pc' := 1441) rfl rfl ?_
        exact kk _ Is24 (by first | exact d_tape.le j0 (Int.le_antisymm (by omega) (by omega)) (by omega) (fun j => (Gs24 65 j rfl)) (fun j => (Gs24 102 j rfl)) | (exfalso; omega)) (Int.le_antisymm (by omega) (by omega)) (by rcases ps24_0 with q | q; (exact c_R.pag j2 I0 Gs24 (c_pg.all (fun j _ _ => q.2.2 _)) rfl); (exfalso; omega)) (g_ti.e j3 (funext (fun j => Gs24 100 j rfl))) (g_SH.e j4 (funext (fun j => Gs24 94 j rfl)) (funext (fun j => Gs24 95 j rfl)) (funext (fun j => Gs24 96 j rfl)) (funext (fun j => Gs24 111 j rfl)) (funext (fun j => Gs24 112 j rfl)) (funext (fun j => Gs24 113 j rfl))) (Int.le_antisymm (by omega) (by omega))
      · clear hz16
        refine h_iconst (pc' := 13) (x := (Int32.ofInt 1)) rfl rfl rfl ?_
        refine h_goto (pc' := 17) rfl rfl ?_
        refine h_zret rfl rfl ci_1 (by omega) (h_Kv ?_)
        refine h_zne (tg := 28) (pc' := 26) rfl rfl rfl ci_1 (fun c25 => ?_) (fun c25 => absurd c25 (by omega))
        refine h_aload_n (pc' := 29) rfl rfl rfl ?_
        refine h_iload_n (pc' := 30) rfl rfl rfl ?_
        refine h_call (sp := false) (pc' := 33) (M := [(0, .ref 13), (1, .int z4)]) rfl rfl rfl rfl rfl rfl rfl rfl ?_
        refine n_drop13 _ I0 z4 _ hz4 (by omega) (by omega) (fun s27 Is27 Gs27 ps27_0 ps27_1 ps27_2 => h_Kn ?_)
        have Zs27 : ∀ i, s27 0 i = s0 0 i := fun i => (Gs27 0 i rfl).trans rfl
        have Fs27 : h_F (fun _ _ => true) s27 s0 := fun _ _ h => by cases h
        have es27_0 : s27 64 1 = s0 64 1 := (Gs27 64 1 rfl).trans rfl
        have es27_1 : s27 98 11 = s0 98 11 := (Gs27 98 11 rfl).trans rfl
        have es27_2 : s27 64 4 = s0 64 4 := (Gs27 64 4 rfl).trans rfl
        have es27_3 : s27 98 16 = s0 98 16 := (Gs27 98 16 rfl).trans rfl
        have es27_4 : s27 90 2 = s0 90 2 := (Gs27 90 2 rfl).trans rfl
        have es27_5 : s27 98 29 = s0 98 29 := (Gs27 98 29 rfl).trans rfl
        have es27_7 : s27 99 18 = s0 99 18 := (Gs27 99 18 rfl).trans rfl
        have es27_8 : s27 16 2 = s0 16 2 := (Gs27 16 2 rfl).trans rfl
        have es27_9 : s27 99 25 = s0 99 25 := (Gs27 99 25 rfl).trans rfl
        refine h_aload_n (pc' := 34) rfl rfl rfl ?_
        refine h_getI (pc' := 37) (v := s27 13 2) rfl rfl rfl rfl rfl rfl (fun z28 hz28 => ?_)
        have tz28 := tf_13_2 Is27
        refine h_iret rfl rfl (h_Kv ?_)
        clear hz2 hz4
        refine h_pop (pc' := 619) rfl rfl rfl ?_
        clear hz28
        refine h_aload_n (pc' := 620) rfl rfl rfl ?_
        refine h_aload_n (pc' := 621) rfl rfl rfl ?_
        refine h_iload_n (pc' := 622) rfl rfl rfl ?_
        refine h_iconst (pc' := 623) (x := (Int32.ofInt 1)) rfl rfl rfl ?_
        refine h_iadd (pc' := 624) rfl rfl hy3 ci_1 rfl (by omega) (by omega) (fun z29 hz29 => ?_)
        refine h_iald (pc' := 625) (v := s0 0 (b3 + 1)) rfl rfl rfl hz29 (by omega) (by omega) (Zs27 _) (fun z30 hz30 => ?_)
        have tz30 := h_rgv hz30
        clear hz29
        refine h_aload_n (pc' := 626) rfl rfl rfl ?_
        refine h_iload_n (pc' := 627) rfl rfl rfl ?_
        refine h_iconst (pc' := 628) (x := (Int32.ofInt 2)) rfl rfl rfl ?_
        refine h_iadd (pc' := 629) rfl rfl hy3 ci_2 rfl (by omega) (by omega) (fun z31 hz31 => ?_)
        refine h_iald (pc' := 630) (v := s0 0 (b3 + 2)) rfl rfl rfl hz31 (by omega) (by omega) (Zs27 _) (fun z32 hz32 => ?_)
        have tz32 := h_rgv hz32
        clear hz31
        have qz30 : z30 = (Int32.ofInt 0) := h_lit (show z30.toInt = 0 by omega) ci_0
        subst qz30
        refine h_call (sp := false) (pc' := 633) (M := [(0, .ref 98), (1, .int (Int32.ofInt 0)), (2, .int z32)]) rfl rfl rfl rfl rfl rfl rfl rfl ?_
        refine n_undo0 _ Is27  z32 _ hz32 (fun r33 br33 hr33 s34 Is34 Gs34 tr33 ps34_0 => h_Kv ?_)
        have Zs34 : ∀ i, s34 0 i = s0 0 i := fun i => (Gs34 0 i rfl).trans (Zs27 i)
        have Fs34 : h_F (fun _ _ => true) s34 s0 := fun _ _ h => by cases h
        have es34_0 : s34 64 1 = s0 64 1 := (Gs34 64 1 rfl).trans es27_0
        have es34_1 : s34 98 11 = s0 98 11 := (Gs34 98 11 rfl).trans es27_1
        have es34_2 : s34 64 4 = s0 64 4 := (Gs34 64 4 rfl).trans es27_2
        have es34_3 : s34 98 16 = s0 98 16 := (Gs34 98 16 rfl).trans es27_3
        have es34_4 : s34 90 2 = s0 90 2 := (Gs34 90 2 rfl).trans es27_4
        have es34_5 : s34 98 29 = s0 98 29 := (Gs34 98 29 rfl).trans es27_5
        have es34_6 : s34 13 2 = s27 13 2 := (Gs34 13 2 rfl).trans rfl
        have es34_8 : s34 16 2 = s0 16 2 := (Gs34 16 2 rfl).trans es27_8
        have es34_9 : s34 99 25 = s0 99 25 := (Gs34 99 25 rfl).trans es27_9
        clear hz30 hz32
        refine h_pop (pc' := 634) rfl rfl rfl ?_
        clear hr33
        refine h_goto (pc' := 1441) rfl rfl ?_
        exact kk _ Is34 (by first | exact d_tape.le j0 (Int.le_antisymm (by omega) (by omega)) (by omega) (fun j => (Gs34 65 j rfl).trans ((Gs27 65 j rfl))) (fun j => (Gs34 102 j rfl).trans ((Gs27 102 j rfl))) | (exfalso; omega)) (Int.le_antisymm (by omega) (by omega)) (by rcases ps34_0 with q | q; (exfalso; omega); (exact c_R.und13 j2 I0 (by omega) (by omega) ((Gs34 13 2 rfl).trans ps27_0) (fun j => (Gs34 14 j rfl).trans (ps27_1 j)) (fun j => (Gs34 15 j rfl).trans (ps27_2 j)) (fun j => (h_undf (fun i => Gs27 99 i rfl) q.2.2.2) j) ((Gs34 10 8 rfl).trans (Gs27 10 8 rfl)) ((Gs34 10 9 rfl).trans (Gs27 10 9 rfl)) ((Gs34 10 10 rfl).trans (Gs27 10 10 rfl)) ((Gs34 16 2 rfl).trans (Gs27 16 2 rfl)) (fun j => (Gs34 11 j rfl).trans (Gs27 11 j rfl)) (fun j => (Gs34 12 j rfl).trans (Gs27 12 j rfl)) (fun j => (Gs34 17 j rfl).trans (Gs27 17 j rfl)) (fun j => (Gs34 18 j rfl).trans (Gs27 18 j rfl)) (fun j => (Gs34 19 j rfl).trans (Gs27 19 j rfl)) (fun j => (Gs34 20 j rfl).trans (Gs27 20 j rfl)) (fun j => (Gs34 21 j rfl).trans (Gs27 21 j rfl)) (fun j => (Gs34 22 j rfl).trans (Gs27 22 j rfl)) ((Gs34 98 1 rfl).trans (Gs27 98 1 rfl)) ((Gs34 98 2 rfl).trans (Gs27 98 2 rfl)) ((c_eq.fr (fl := true) Gs34 rfl).tr (c_eq.fr (fl := true) Gs27 rfl)) ((c_eq.fr (fl := true) Gs34 rfl).tr (c_eq.fr (fl := true) Gs27 rfl)) ((Gs34 62 0 rfl).trans (Gs27 62 0 rfl)) ((Gs34 62 1 rfl).trans (Gs27 62 1 rfl)) ((Gs34 110 0 rfl).trans (Gs27 110 0 rfl)) ((Gs34 110 1 rfl).trans (Gs27 110 1 rfl)))) (g_ti.e j3 ((funext (fun j => Gs34 100 j rfl)).trans (funext (fun j => Gs27 100 j rfl)))) (g_SH.e j4 ((funext (fun j => Gs34 94 j rfl)).trans (funext (fun j => Gs27 94 j rfl))) ((funext (fun j => Gs34 95 j rfl)).trans (funext (fun j => Gs27 95 j rfl))) ((funext (fun j => Gs34 96 j rfl)).trans (funext (fun j => Gs27 96 j rfl))) ((funext (fun j => Gs34 111 j rfl)).trans (funext (fun j => Gs27 111 j rfl))) ((funext (fun j => Gs34 112 j rfl)).trans (funext (fun j => Gs27 112 j rfl))) ((funext (fun j => Gs34 113 j rfl)).trans (funext (fun j => Gs27 113 j rfl)))) (Int.le_antisymm (by omega) (by omega))
  · refine h_iload_n (pc' := 5) rfl rfl rfl ?_
    refine h_iconst (pc' := 6) (x := (Int32.ofInt 1)) rfl rfl rfl ?_
    refine h_cne (tg := 13) (pc' := 9) rfl rfl rfl hz2 ci_1 (fun c35 => ?_) (fun c35 => ?_)
    · refine h_iconst (pc' := 14) (x := (Int32.ofInt 0)) rfl rfl rfl ?_
      refine h_zret rfl rfl ci_0 (by omega) (h_Kv ?_)
      refine h_zne (tg := 9) (pc' := 7) rfl rfl rfl ci_0 (fun c36 => absurd (Int.le_antisymm (by omega) (by omega)) c36) (fun c36 => ?_)
      refine h_iconst (pc' := 8) (x := (Int32.ofInt (-1))) rfl rfl rfl ?_
      refine h_iret rfl rfl (h_Kv ?_)
      clear hz2 hz4
      refine h_pop (pc' := 619) rfl rfl rfl ?_
      refine h_aload_n (pc' := 620) rfl rfl rfl ?_
      refine h_aload_n (pc' := 621) rfl rfl rfl ?_
      refine h_iload_n (pc' := 622) rfl rfl rfl ?_
      refine h_iconst (pc' := 623) (x := (Int32.ofInt 1)) rfl rfl rfl ?_
      refine h_iadd (pc' := 624) rfl rfl hy3 ci_1 rfl (by omega) (by omega) (fun z37 hz37 => ?_)
      refine h_iald (pc' := 625) (v := s0 0 (b3 + 1)) rfl rfl rfl hz37 (by omega) (by omega) rfl (fun z38 hz38 => ?_)
      have tz38 := h_rgv hz38
      clear hz37
      refine h_aload_n (pc' := 626) rfl rfl rfl ?_
      refine h_iload_n (pc' := 627) rfl rfl rfl ?_
      refine h_iconst (pc' := 628) (x := (Int32.ofInt 2)) rfl rfl rfl ?_
      refine h_iadd (pc' := 629) rfl rfl hy3 ci_2 rfl (by omega) (by omega) (fun z39 hz39 => ?_)
      refine h_iald (pc' := 630) (v := s0 0 (b3 + 2)) rfl rfl rfl hz39 (by omega) (by omega) rfl (fun z40 hz40 => ?_)
      have tz40 := h_rgv hz40
      clear hz39
      rcases (show ((s0 0 (b3 + 1)) ≤ (-1)) ∨ (2 ≤ (s0 0 (b3 + 1))) ∨ ((s0 0 (b3 + 1)) = 0) ∨ ((s0 0 (b3 + 1)) = 1) by omega) with c41 | c41 | c41 | c41
      · refine h_call (sp := false) (pc' := 633) (M := [(0, .ref 98), (1, .int z38), (2, .int z40)]) rfl rfl rfl rfl rfl rfl rfl rfl ?_
        refine w_undo_n _ I0 z38 _ hz38 (by omega) z40 _ hz40 (fun r42 br42 hr42 s43 Is43 Gs43 tr42 => h_Kv ?_)
        have Zs43 : ∀ i, s43 0 i = s0 0 i := fun i => (Gs43 0 i rfl).trans rfl
        have Fs43 : h_F (fun _ _ => true) s43 s0 := fun _ _ h => by cases h
        have es43_0 : s43 64 1 = s0 64 1 := (Gs43 64 1 rfl).trans rfl
        have es43_1 : s43 98 11 = s0 98 11 := (Gs43 98 11 rfl).trans rfl
        have es43_2 : s43 64 4 = s0 64 4 := (Gs43 64 4 rfl).trans rfl
        have es43_3 : s43 98 16 = s0 98 16 := (Gs43 98 16 rfl).trans rfl
        have es43_4 : s43 90 2 = s0 90 2 := (Gs43 90 2 rfl).trans rfl
        have es43_5 : s43 98 29 = s0 98 29 := (Gs43 98 29 rfl).trans rfl
        have es43_6 : s43 13 2 = s0 13 2 := (Gs43 13 2 rfl).trans rfl
        have es43_7 : s43 99 18 = s0 99 18 := (Gs43 99 18 rfl).trans rfl
        have es43_8 : s43 16 2 = s0 16 2 := (Gs43 16 2 rfl).trans rfl
        have es43_9 : s43 99 25 = s0 99 25 := (Gs43 99 25 rfl).trans rfl
        clear hz38 hz40
        refine h_pop (pc' := 634) rfl rfl rfl ?_
        clear hr42
        refine h_goto (pc' := 1441) rfl rfl ?_
        exact kk _ Is43 (by first | exact d_tape.le j0 (Int.le_antisymm (by omega) (by omega)) (by omega) (fun j => (Gs43 65 j rfl)) (fun j => (Gs43 102 j rfl)) | (exfalso; omega)) (Int.le_antisymm (by omega) (by omega)) (c_R.fr j2 I0 Gs43 rfl) (g_ti.e j3 (funext (fun j => Gs43 100 j rfl))) (g_SH.e j4 (funext (fun j => Gs43 94 j rfl)) (funext (fun j => Gs43 95 j rfl)) (funext (fun j => Gs43 96 j rfl)) (funext (fun j => Gs43 111 j rfl)) (funext (fun j => Gs43 112 j rfl)) (funext (fun j => Gs43 113 j rfl))) (Int.le_antisymm (by omega) (by omega))
      · refine h_call (sp := false) (pc' := 633) (M := [(0, .ref 98), (1, .int z38), (2, .int z40)]) rfl rfl rfl rfl rfl rfl rfl rfl ?_
        refine w_undo_p _ I0 z38 _ hz38 (by omega) z40 _ hz40 (fun r44 br44 hr44 s45 Is45 Gs45 tr44 => h_Kv ?_)
        have Zs45 : ∀ i, s45 0 i = s0 0 i := fun i => (Gs45 0 i rfl).trans rfl
        have Fs45 : h_F (fun _ _ => true) s45 s0 := fun _ _ h => by cases h
        have es45_0 : s45 64 1 = s0 64 1 := (Gs45 64 1 rfl).trans rfl
        have es45_1 : s45 98 11 = s0 98 11 := (Gs45 98 11 rfl).trans rfl
        have es45_2 : s45 64 4 = s0 64 4 := (Gs45 64 4 rfl).trans rfl
        have es45_3 : s45 98 16 = s0 98 16 := (Gs45 98 16 rfl).trans rfl
        have es45_4 : s45 90 2 = s0 90 2 := (Gs45 90 2 rfl).trans rfl
        have es45_5 : s45 98 29 = s0 98 29 := (Gs45 98 29 rfl).trans rfl
        have es45_6 : s45 13 2 = s0 13 2 := (Gs45 13 2 rfl).trans rfl
        have es45_7 : s45 99 18 = s0 99 18 := (Gs45 99 18 rfl).trans rfl
        have es45_8 : s45 16 2 = s0 16 2 := (Gs45 16 2 rfl).trans rfl
        have es45_9 : s45 99 25 = s0 99 25 := (Gs45 99 25 rfl).trans rfl
        clear hz38 hz40
        refine h_pop (pc' := 634) rfl rfl rfl ?_
        clear hr44
        refine h_goto (pc' := 1441) rfl rfl ?_
        exact kk _ Is45 (by first | exact d_tape.le j0 (Int.le_antisymm (by omega) (by omega)) (by omega) (fun j => (Gs45 65 j rfl)) (fun j => (Gs45 102 j rfl)) | (exfalso; omega)) (Int.le_antisymm (by omega) (by omega)) (c_R.fr j2 I0 Gs45 rfl) (g_ti.e j3 (funext (fun j => Gs45 100 j rfl))) (g_SH.e j4 (funext (fun j => Gs45 94 j rfl)) (funext (fun j => Gs45 95 j rfl)) (funext (fun j => Gs45 96 j rfl)) (funext (fun j => Gs45 111 j rfl)) (funext (fun j => Gs45 112 j rfl)) (funext (fun j => Gs45 113 j rfl))) (Int.le_antisymm (by omega) (by omega))
      · have qz38 : z38 = (Int32.ofInt 0) := h_lit (show z38.toInt = 0 by omega) ci_0
        subst qz38
        refine h_call (sp := false) (pc' := 633) (M := [(0, .ref 98), (1, .int (Int32.ofInt 0)), (2, .int z40)]) rfl rfl rfl rfl rfl rfl rfl rfl ?_
        refine n_undo0 _ I0  z40 _ hz40 (fun r46 br46 hr46 s47 Is47 Gs47 tr46 ps47_0 => h_Kv ?_)
        have Zs47 : ∀ i, s47 0 i = s0 0 i := fun i => (Gs47 0 i rfl).trans rfl
        have Fs47 : h_F (fun _ _ => true) s47 s0 := fun _ _ h => by cases h
        have es47_0 : s47 64 1 = s0 64 1 := (Gs47 64 1 rfl).trans rfl
        have es47_1 : s47 98 11 = s0 98 11 := (Gs47 98 11 rfl).trans rfl
        have es47_2 : s47 64 4 = s0 64 4 := (Gs47 64 4 rfl).trans rfl
        have es47_3 : s47 98 16 = s0 98 16 := (Gs47 98 16 rfl).trans rfl
        have es47_4 : s47 90 2 = s0 90 2 := (Gs47 90 2 rfl).trans rfl
        have es47_5 : s47 98 29 = s0 98 29 := (Gs47 98 29 rfl).trans rfl
        have es47_6 : s47 13 2 = s0 13 2 := (Gs47 13 2 rfl).trans rfl
        have es47_8 : s47 16 2 = s0 16 2 := (Gs47 16 2 rfl).trans rfl
        have es47_9 : s47 99 25 = s0 99 25 := (Gs47 99 25 rfl).trans rfl
        clear hz38 hz40
        refine h_pop (pc' := 634) rfl rfl rfl ?_
        clear hr46
        refine h_goto (pc' := 1441) rfl rfl ?_
        exact kk _ Is47 (by first | exact d_tape.le j0 (Int.le_antisymm (by omega) (by omega)) (by omega) (fun j => (Gs47 65 j rfl)) (fun j => (Gs47 102 j rfl)) | (exfalso; omega)) (Int.le_antisymm (by omega) (by omega)) (by rcases ps47_0 with q | q; (exact c_R.pag j2 I0 Gs47 (c_pg.all (fun j _ _ => q.2.2 _)) rfl); (exfalso; omega)) (g_ti.e j3 (funext (fun j => Gs47 100 j rfl))) (g_SH.e j4 (funext (fun j => Gs47 94 j rfl)) (funext (fun j => Gs47 95 j rfl)) (funext (fun j => Gs47 96 j rfl)) (funext (fun j => Gs47 111 j rfl)) (funext (fun j => Gs47 112 j rfl)) (funext (fun j => Gs47 113 j rfl))) (Int.le_antisymm (by omega) (by omega))
      · have qz38 : z38 = (Int32.ofInt 1) := h_lit (show z38.toInt = 1 by omega) ci_1
        subst qz38
        refine h_call (sp := false) (pc' := 633) (M := [(0, .ref 98), (1, .int (Int32.ofInt 1)), (2, .int z40)]) rfl rfl rfl rfl rfl rfl rfl rfl ?_
        refine n_undo1 _ I0  z40 _ hz40 (fun r48 br48 hr48 s49 Is49 Gs49 tr48 ps49_0 => h_Kv ?_)
        have Zs49 : ∀ i, s49 0 i = s0 0 i := fun i => (Gs49 0 i rfl).trans rfl
        have Fs49 : h_F (fun _ _ => true) s49 s0 := fun _ _ h => by cases h
        have es49_0 : s49 64 1 = s0 64 1 := (Gs49 64 1 rfl).trans rfl
        have es49_1 : s49 98 11 = s0 98 11 := (Gs49 98 11 rfl).trans rfl
        have es49_2 : s49 64 4 = s0 64 4 := (Gs49 64 4 rfl).trans rfl
        have es49_3 : s49 98 16 = s0 98 16 := (Gs49 98 16 rfl).trans rfl
        have es49_4 : s49 90 2 = s0 90 2 := (Gs49 90 2 rfl).trans rfl
        have es49_5 : s49 98 29 = s0 98 29 := (Gs49 98 29 rfl).trans rfl
        have es49_6 : s49 13 2 = s0 13 2 := (Gs49 13 2 rfl).trans rfl
        have es49_7 : s49 99 18 = s0 99 18 := (Gs49 99 18 rfl).trans rfl
        have es49_8 : s49 16 2 = s0 16 2 := (Gs49 16 2 rfl).trans rfl
        clear hz38 hz40
        refine h_pop (pc' := 634) rfl rfl rfl ?_
        clear hr48
        refine h_goto (pc' := 1441) rfl rfl ?_
        exact kk _ Is49 (by first | exact d_tape.le j0 (Int.le_antisymm (by omega) (by omega)) (by omega) (fun j => (Gs49 65 j rfl)) (fun j => (Gs49 102 j rfl)) | (exfalso; omega)) (Int.le_antisymm (by omega) (by omega)) (by rcases ps49_0 with q | q; (exact c_R.pag j2 I0 Gs49 (c_pg.all (fun j _ _ => q.2.2 _)) rfl); (exfalso; omega)) (g_ti.e j3 (funext (fun j => Gs49 100 j rfl))) (g_SH.e j4 (funext (fun j => Gs49 94 j rfl)) (funext (fun j => Gs49 95 j rfl)) (funext (fun j => Gs49 96 j rfl)) (funext (fun j => Gs49 111 j rfl)) (funext (fun j => Gs49 112 j rfl)) (funext (fun j => Gs49 113 j rfl))) (Int.le_antisymm (by omega) (by omega))
    · refine h_iconst (pc' := 10) (x := (Int32.ofInt 1)) rfl rfl rfl ?_
      refine h_goto (pc' := 14) rfl rfl ?_
      refine h_zret rfl rfl ci_1 (by omega) (h_Kv ?_)
      refine h_zne (tg := 9) (pc' := 7) rfl rfl rfl ci_1 (fun c50 => ?_) (fun c50 => absurd c50 (by omega))
      refine h_aload_n (pc' := 10) rfl rfl rfl ?_
      refine h_getR (pc' := 13) rfl rfl rfl rfl rfl ?_
      refine h_iload_n (pc' := 14) rfl rfl rfl ?_
      refine h_call (sp := false) (pc' := 17) (M := [(0, .ref 10), (1, .int z2)]) rfl rfl rfl rfl rfl rfl rfl rfl ?_
      refine h_iload_n (pc' := 1) rfl rfl rfl ?_
      refine h_zne (tg := 11) (pc' := 4) rfl rfl rfl hz2 (fun c51 => ?_) (fun c51 => absurd c51 (by omega))
      refine h_aload_n (pc' := 12) rfl rfl rfl ?_
      refine h_getR (pc' := 15) rfl rfl rfl rfl rfl ?_
      refine h_aret rfl rfl (h_Kv ?_)
      refine h_astore_n (pc' := 18) (M := [(3, .ref 16), (0, .ref 9), (1, .int z2), (2, .int z4)]) rfl rfl rfl rfl ?_
      refine h_aload_n (pc' := 19) rfl rfl rfl ?_
      refine h_iload_n (pc' := 20) rfl rfl rfl ?_
      refine h_call (sp := false) (pc' := 23) (M := [(0, .ref 16), (1, .int z4)]) rfl rfl rfl rfl rfl rfl rfl rfl ?_
      refine h_iload_n (pc' := 1) rfl rfl rfl ?_
      refine h_zlt (tg := 16) (pc' := 4) rfl rfl rfl hz4 (fun c52 => ?_) (fun c52 => ?_)
      · refine h_iconst (pc' := 17) (x := (Int32.ofInt 0)) rfl rfl rfl ?_
        refine h_zret rfl rfl ci_0 (by omega) (h_Kv ?_)
        refine h_zne (tg := 28) (pc' := 26) rfl rfl rfl ci_0 (fun c53 => absurd (Int.le_antisymm (by omega) (by omega)) c53) (fun c53 => ?_)
        refine h_iconst (pc' := 27) (x := (Int32.ofInt (-1))) rfl rfl rfl ?_
        refine h_iret rfl rfl (h_Kv ?_)
        clear hz2 hz4
        refine h_pop (pc' := 619) rfl rfl rfl ?_
        refine h_aload_n (pc' := 620) rfl rfl rfl ?_
        refine h_aload_n (pc' := 621) rfl rfl rfl ?_
        refine h_iload_n (pc' := 622) rfl rfl rfl ?_
        refine h_iconst (pc' := 623) (x := (Int32.ofInt 1)) rfl rfl rfl ?_
        refine h_iadd (pc' := 624) rfl rfl hy3 ci_1 rfl (by omega) (by omega) (fun z54 hz54 => ?_)
        refine h_iald (pc' := 625) (v := s0 0 (b3 + 1)) rfl rfl rfl hz54 (by omega) (by omega) rfl (fun z55 hz55 => ?_)
        have tz55 := h_rgv hz55
        clear hz54
        refine h_aload_n (pc' := 626) rfl rfl rfl ?_
        refine h_iload_n (pc' := 627) rfl rfl rfl ?_
        refine h_iconst (pc' := 628) (x := (Int32.ofInt 2)) rfl rfl rfl ?_
        refine h_iadd (pc' := 629) rfl rfl hy3 ci_2 rfl (by omega) (by omega) (fun z56 hz56 => ?_)
        refine h_iald (pc' := 630) (v := s0 0 (b3 + 2)) rfl rfl rfl hz56 (by omega) (by omega) rfl (fun z57 hz57 => ?_)
        have tz57 := h_rgv hz57
        clear hz56
        have qz55 : z55 = (Int32.ofInt 1) := h_lit (show z55.toInt = 1 by omega) ci_1
        subst qz55
        refine h_call (sp := false) (pc' := 633) (M := [(0, .ref 98), (1, .int (Int32.ofInt 1)), (2, .int z57)]) rfl rfl rfl rfl rfl rfl rfl rfl ?_
        refine n_undo1 _ I0  z57 _ hz57 (fun r58 br58 hr58 s59 Is59 Gs59 tr58 ps59_0 => h_Kv ?_)
        have Zs59 : ∀ i, s59 0 i = s0 0 i := fun i => (Gs59 0 i rfl).trans rfl
        have Fs59 : h_F (fun _ _ => true) s59 s0 := fun _ _ h => by cases h
        have es59_0 : s59 64 1 = s0 64 1 := (Gs59 64 1 rfl).trans rfl
        have es59_1 : s59 98 11 = s0 98 11 := (Gs59 98 11 rfl).trans rfl
        have es59_2 : s59 64 4 = s0 64 4 := (Gs59 64 4 rfl).trans rfl
        have es59_3 : s59 98 16 = s0 98 16 := (Gs59 98 16 rfl).trans rfl
        have es59_4 : s59 90 2 = s0 90 2 := (Gs59 90 2 rfl).trans rfl
        have es59_5 : s59 98 29 = s0 98 29 := (Gs59 98 29 rfl).trans rfl
        have es59_6 : s59 13 2 = s0 13 2 := (Gs59 13 2 rfl).trans rfl
        have es59_7 : s59 99 18 = s0 99 18 := (Gs59 99 18 rfl).trans rfl
        have es59_8 : s59 16 2 = s0 16 2 := (Gs59 16 2 rfl).trans rfl
        clear hz55 hz57
        refine h_pop (pc' := 634) rfl rfl rfl ?_
        clear hr58
        refine h_goto (pc' := 1441) rfl rfl ?_
        exact kk _ Is59 (by first | exact d_tape.le j0 (Int.le_antisymm (by omega) (by omega)) (by omega) (fun j => (Gs59 65 j rfl)) (fun j => (Gs59 102 j rfl)) | (exfalso; omega)) (Int.le_antisymm (by omega) (by omega)) (by rcases ps59_0 with q | q; (exact c_R.pag j2 I0 Gs59 (c_pg.all (fun j _ _ => q.2.2 _)) rfl); (exfalso; omega)) (g_ti.e j3 (funext (fun j => Gs59 100 j rfl))) (g_SH.e j4 (funext (fun j => Gs59 94 j rfl)) (funext (fun j => Gs59 95 j rfl)) (funext (fun j => Gs59 96 j rfl)) (funext (fun j => Gs59 111 j rfl)) (funext (fun j => Gs59 112 j rfl)) (funext (fun j => Gs59 113 j rfl))) (Int.le_antisymm (by omega) (by omega))
      · refine h_iload_n (pc' := 5) rfl rfl rfl ?_
        refine h_aload_n (pc' := 6) rfl rfl rfl ?_
        refine h_getI (pc' := 9) (v := s0 16 2) rfl rfl rfl rfl rfl rfl (fun z60 hz60 => ?_)
        have tz60 := tf_16_2 I0
        refine h_cge (tg := 16) (pc' := 12) rfl rfl rfl hz4 hz60 (fun c61 => ?_) (fun c61 => ?_)
        · clear hz60
          refine h_iconst (pc' := 17) (x := (Int32.ofInt 0)) rfl rfl rfl ?_
          refine h_zret rfl rfl ci_0 (by omega) (h_Kv ?_)
          refine h_zne (tg := 28) (pc' := 26) rfl rfl rfl ci_0 (fun c62 => absurd (Int.le_antisymm (by omega) (by omega)) c62) (fun c62 => ?_)
          refine h_iconst (pc' := 27) (x := (Int32.ofInt (-1))) rfl rfl rfl ?_
          refine h_iret rfl rfl (h_Kv ?_)
          clear hz2 hz4
          refine h_pop (pc' := 619) rfl rfl rfl ?_
          refine h_aload_n (pc' := 620) rfl rfl rfl ?_
          refine h_aload_n (pc' := 621) rfl rfl rfl ?_
          refine h_iload_n (pc' := 622) rfl rfl rfl ?_
          refine h_iconst (pc' := 623) (x := (Int32.ofInt 1)) rfl rfl rfl ?_
          refine h_iadd (pc' := 624) rfl rfl hy3 ci_1 rfl (by omega) (by omega) (fun z63 hz63 => ?_)
          refine h_iald (pc' := 625) (v := s0 0 (b3 + 1)) rfl rfl rfl hz63 (by omega) (by omega) rfl (fun z64 hz64 => ?_)
          have tz64 := h_rgv hz64
          clear hz63
          refine h_aload_n (pc' := 626) rfl rfl rfl ?_
          refine h_iload_n (pc' := 627) rfl rfl rfl ?_
          refine h_iconst (pc' := 628) (x := (Int32.ofInt 2)) rfl rfl rfl ?_
          refine h_iadd (pc' := 629) rfl rfl hy3 ci_2 rfl (by omega) (by omega) (fun z65 hz65 => ?_)
          refine h_iald (pc' := 630) (v := s0 0 (b3 + 2)) rfl rfl rfl hz65 (by omega) (by omega) rfl (fun z66 hz66 => ?_)
          have tz66 := h_rgv hz66
          clear hz65
          have qz64 : z64 = (Int32.ofInt 1) := h_lit (show z64.toInt = 1 by omega) ci_1
          subst qz64
          refine h_call (sp := false) (pc' := 633) (M := [(0, .ref 98), (1, .int (Int32.ofInt 1)), (2, .int z66)]) rfl rfl rfl rfl rfl rfl rfl rfl ?_
          refine n_undo1 _ I0  z66 _ hz66 (fun r67 br67 hr67 s68 Is68 Gs68 tr67 ps68_0 => h_Kv ?_)
          have Zs68 : ∀ i, s68 0 i = s0 0 i := fun i => (Gs68 0 i rfl).trans rfl
          have Fs68 : h_F (fun _ _ => true) s68 s0 := fun _ _ h => by cases h
          have es68_0 : s68 64 1 = s0 64 1 := (Gs68 64 1 rfl).trans rfl
          have es68_1 : s68 98 11 = s0 98 11 := (Gs68 98 11 rfl).trans rfl
          have es68_2 : s68 64 4 = s0 64 4 := (Gs68 64 4 rfl).trans rfl
          have es68_3 : s68 98 16 = s0 98 16 := (Gs68 98 16 rfl).trans rfl
          have es68_4 : s68 90 2 = s0 90 2 := (Gs68 90 2 rfl).trans rfl
          have es68_5 : s68 98 29 = s0 98 29 := (Gs68 98 29 rfl).trans rfl
          have es68_6 : s68 13 2 = s0 13 2 := (Gs68 13 2 rfl).trans rfl
          have es68_7 : s68 99 18 = s0 99 18 := (Gs68 99 18 rfl).trans rfl
          have es68_8 : s68 16 2 = s0 16 2 := (Gs68 16 2 rfl).trans rfl
          clear hz64 hz66
          refine h_pop (pc' := 634) rfl rfl rfl ?_
          clear hr67
          refine h_goto (pc' := 1441) rfl rfl ?_
          exact kk _ Is68 (by first | exact d_tape.le j0 (Int.le_antisymm (by omega) (by omega)) (by omega) (fun j => (Gs68 65 j rfl)) (fun j => (Gs68 102 j rfl)) | (exfalso; omega)) (Int.le_antisymm (by omega) (by omega)) (by rcases ps68_0 with q | q; (exact c_R.pag j2 I0 Gs68 (c_pg.all (fun j _ _ => q.2.2 _)) rfl); (exfalso; omega)) (g_ti.e j3 (funext (fun j => Gs68 100 j rfl))) (g_SH.e j4 (funext (fun j => Gs68 94 j rfl)) (funext (fun j => Gs68 95 j rfl)) (funext (fun j => Gs68 96 j rfl)) (funext (fun j => Gs68 111 j rfl)) (funext (fun j => Gs68 112 j rfl)) (funext (fun j => Gs68 113 j rfl))) (Int.le_antisymm (by omega) (by omega))
        · clear hz60
          refine h_iconst (pc' := 13) (x := (Int32.ofInt 1)) rfl rfl rfl ?_
          refine h_goto (pc' := 17) rfl rfl ?_
          refine h_zret rfl rfl ci_1 (by omega) (h_Kv ?_)
          refine h_zne (tg := 28) (pc' := 26) rfl rfl rfl ci_1 (fun c69 => ?_) (fun c69 => absurd c69 (by omega))
          refine h_aload_n (pc' := 29) rfl rfl rfl ?_
          refine h_iload_n (pc' := 30) rfl rfl rfl ?_
          refine h_call (sp := false) (pc' := 33) (M := [(0, .ref 16), (1, .int z4)]) rfl rfl rfl rfl rfl rfl rfl rfl ?_
          refine n_drop16 _ I0 z4 _ hz4 (by omega) (by omega) (fun s71 Is71 Gs71 ps71_0 ps71_1 ps71_2 => h_Kn ?_)
          have Zs71 : ∀ i, s71 0 i = s0 0 i := fun i => (Gs71 0 i rfl).trans rfl
          have Fs71 : h_F (fun _ _ => true) s71 s0 := fun _ _ h => by cases h
          have es71_0 : s71 64 1 = s0 64 1 := (Gs71 64 1 rfl).trans rfl
          have es71_1 : s71 98 11 = s0 98 11 := (Gs71 98 11 rfl).trans rfl
          have es71_2 : s71 64 4 = s0 64 4 := (Gs71 64 4 rfl).trans rfl
          have es71_3 : s71 98 16 = s0 98 16 := (Gs71 98 16 rfl).trans rfl
          have es71_4 : s71 90 2 = s0 90 2 := (Gs71 90 2 rfl).trans rfl
          have es71_5 : s71 98 29 = s0 98 29 := (Gs71 98 29 rfl).trans rfl
          have es71_6 : s71 13 2 = s0 13 2 := (Gs71 13 2 rfl).trans rfl
          have es71_7 : s71 99 18 = s0 99 18 := (Gs71 99 18 rfl).trans rfl
          have es71_9 : s71 99 25 = s0 99 25 := (Gs71 99 25 rfl).trans rfl
          refine h_aload_n (pc' := 34) rfl rfl rfl ?_
          refine h_getI (pc' := 37) (v := s71 16 2) rfl rfl rfl rfl rfl rfl (fun z72 hz72 => ?_)
          have tz72 := tf_16_2 Is71
          refine h_iret rfl rfl (h_Kv ?_)
          clear hz2 hz4
          refine h_pop (pc' := 619) rfl rfl rfl ?_
          clear hz72
          refine h_aload_n (pc' := 620) rfl rfl rfl ?_
          refine h_aload_n (pc' := 621) rfl rfl rfl ?_
          refine h_iload_n (pc' := 622) rfl rfl rfl ?_
          refine h_iconst (pc' := 623) (x := (Int32.ofInt 1)) rfl rfl rfl ?_
          refine h_iadd (pc' := 624) rfl rfl hy3 ci_1 rfl (by omega) (by omega) (fun z73 hz73 => ?_)
          refine h_iald (pc' := 625) (v := s0 0 (b3 + 1)) rfl rfl rfl hz73 (by omega) (by omega) (Zs71 _) (fun z74 hz74 => ?_)
          have tz74 := h_rgv hz74
          clear hz73
          refine h_aload_n (pc' := 626) rfl rfl rfl ?_
          refine h_iload_n (pc' := 627) rfl rfl rfl ?_
          refine h_iconst (pc' := 628) (x := (Int32.ofInt 2)) rfl rfl rfl ?_
          refine h_iadd (pc' := 629) rfl rfl hy3 ci_2 rfl (by omega) (by omega) (fun z75 hz75 => ?_)
          refine h_iald (pc' := 630) (v := s0 0 (b3 + 2)) rfl rfl rfl hz75 (by omega) (by omega) (Zs71 _) (fun z76 hz76 => ?_)
          have tz76 := h_rgv hz76
          clear hz75
          have qz74 : z74 = (Int32.ofInt 1) := h_lit (show z74.toInt = 1 by omega) ci_1
          subst qz74
          refine h_call (sp := false) (pc' := 633) (M := [(0, .ref 98), (1, .int (Int32.ofInt 1)), (2, .int z76)]) rfl rfl rfl rfl rfl rfl rfl rfl ?_
          refine n_undo1 _ Is71  z76 _ hz76 (fun r77 br77 hr77 s78 Is78 Gs78 tr77 ps78_0 => h_Kv ?_)
          have Zs78 : ∀ i, s78 0 i = s0 0 i := fun i => (Gs78 0 i rfl).trans (Zs71 i)
          have Fs78 : h_F (fun _ _ => true) s78 s0 := fun _ _ h => by cases h
          have es78_0 : s78 64 1 = s0 64 1 := (Gs78 64 1 rfl).trans es71_0
          have es78_1 : s78 98 11 = s0 98 11 := (Gs78 98 11 rfl).trans es71_1
          have es78_2 : s78 64 4 = s0 64 4 := (Gs78 64 4 rfl).trans es71_2
          have es78_3 : s78 98 16 = s0 98 16 := (Gs78 98 16 rfl).trans es71_3
          have es78_4 : s78 90 2 = s0 90 2 := (Gs78 90 2 rfl).trans es71_4
          have es78_5 : s78 98 29 = s0 98 29 := (Gs78 98 29 rfl).trans es71_5
          have es78_6 : s78 13 2 = s0 13 2 := (Gs78 13 2 rfl).trans es71_6
          have es78_7 : s78 99 18 = s0 99 18 := (Gs78 99 18 rfl).trans es71_7
          have es78_8 : s78 16 2 = s71 16 2 := (Gs78 16 2 rfl).trans rfl
          clear hz74 hz76
          refine h_pop (pc' := 634) rfl rfl rfl ?_
          clear hr77
          refine h_goto (pc' := 1441) rfl rfl ?_
          exact kk _ Is78 (by first | exact d_tape.le j0 (Int.le_antisymm (by omega) (by omega)) (by omega) (fun j => (Gs78 65 j rfl).trans ((Gs71 65 j rfl))) (fun j => (Gs78 102 j rfl).trans ((Gs71 102 j rfl))) | (exfalso; omega)) (Int.le_antisymm (by omega) (by omega)) (by rcases ps78_0 with q | q; (exfalso; omega); (exact c_R.und16 j2 I0 (by omega) (by omega) ((Gs78 16 2 rfl).trans ps71_0) (fun j => (Gs78 17 j rfl).trans (ps71_1 j)) (fun j => (Gs78 18 j rfl).trans (ps71_2 j)) (fun j => (h_undf (fun i => Gs71 99 i rfl) q.2.2.2) j) ((Gs78 10 8 rfl).trans (Gs71 10 8 rfl)) ((Gs78 10 9 rfl).trans (Gs71 10 9 rfl)) ((Gs78 10 10 rfl).trans (Gs71 10 10 rfl)) ((Gs78 13 2 rfl).trans (Gs71 13 2 rfl)) (fun j => (Gs78 11 j rfl).trans (Gs71 11 j rfl)) (fun j => (Gs78 12 j rfl).trans (Gs71 12 j rfl)) (fun j => (Gs78 14 j rfl).trans (Gs71 14 j rfl)) (fun j => (Gs78 15 j rfl).trans (Gs71 15 j rfl)) (fun j => (Gs78 19 j rfl).trans (Gs71 19 j rfl)) (fun j => (Gs78 20 j rfl).trans (Gs71 20 j rfl)) (fun j => (Gs78 21 j rfl).trans (Gs71 21 j rfl)) (fun j => (Gs78 22 j rfl).trans (Gs71 22 j rfl)) ((Gs78 98 1 rfl).trans (Gs71 98 1 rfl)) ((Gs78 98 2 rfl).trans (Gs71 98 2 rfl)) ((c_eq.fr (fl := true) Gs78 rfl).tr (c_eq.fr (fl := true) Gs71 rfl)) ((c_eq.fr (fl := true) Gs78 rfl).tr (c_eq.fr (fl := true) Gs71 rfl)) ((Gs78 62 0 rfl).trans (Gs71 62 0 rfl)) ((Gs78 62 1 rfl).trans (Gs71 62 1 rfl)) ((Gs78 110 0 rfl).trans (Gs71 110 0 rfl)) ((Gs78 110 1 rfl).trans (Gs71 110 1 rfl)))) (g_ti.e j3 ((funext (fun j => Gs78 100 j rfl)).trans (funext (fun j => Gs71 100 j rfl)))) (g_SH.e j4 ((funext (fun j => Gs78 94 j rfl)).trans (funext (fun j => Gs71 94 j rfl))) ((funext (fun j => Gs78 95 j rfl)).trans (funext (fun j => Gs71 95 j rfl))) ((funext (fun j => Gs78 96 j rfl)).trans (funext (fun j => Gs71 96 j rfl))) ((funext (fun j => Gs78 111 j rfl)).trans (funext (fun j => Gs71 111 j rfl))) ((funext (fun j => Gs78 112 j rfl)).trans (funext (fun j => Gs71 112 j rfl))) ((funext (fun j => Gs78 113 j rfl)).trans (funext (fun j => Gs71 113 j rfl)))) (Int.le_antisymm (by omega) (by omega))
