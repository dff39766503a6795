set_option maxHeartbeats 100000000 in
theorem g_case_1243 {ns : Nat} (hns : ns ≤ 320) (s0 : h_S) (I0 : h_I s0) (j0 : d_tape s0 s0) (j1 : s0 64 4 = s0 98 16) (j2 : c_R true s0) (j3 : g_ti s0) (j4 : g_SH s0) (y3 : Int32) (b3 : Int) (hy3 : y3.toInt = b3) (hr : 0 ≤ b3 ∧ b3 + 5 ≤ ns) {Q : Option Value → h_S → Prop} (kk : ∀ τ, h_I τ → (d_tape τ τ) → (τ 64 4 = τ 98 16) → (c_R true τ) → (g_ti τ) → (g_SH τ) → h_T g_P (g_Y ns) 225 1441 [(0, .ref 0), (1, .ref 9), (2, .ref 98), (3, .int y3)] [] τ Q) : h_T g_P (g_Y ns) 225 1243 [(0, .ref 0), (1, .ref 9), (2, .ref 98), (3, .int y3)] [] s0 Q := by
  have F0_ : h_F (fun _ _ => true) s0 s0 := h_F.rf
  have j0_ := j0.2
  have i0 := tf_64_1 I0
  have i1 := tf_98_11 I0
  have i2 := tf_64_4 I0
  have i3 := tf_98_16 I0
  have i4 := tf_10_8 I0
  have i5 := tf_98_1 I0
  have i6 := tf_10_9 I0
  have i7 := tf_98_2 I0
  have j2_ := j2.sz
  have j2i := j2.2.2.1
  have y62_0 := ty_62 I0 0
  have y62_1 := ty_62 I0 1
  have y110_0 := ty_110 I0 0
  have y110_1 := ty_110 I0 1
  refine h_aload_n (pc' := 1244) rfl rfl rfl ?_
  refine h_aload_n (pc' := 1245) rfl rfl rfl ?_
  refine h_iload_n (pc' := 1246) rfl rfl rfl ?_
  refine h_iconst (pc' := 1247) (x := (Int32.ofInt 1)) rfl rfl rfl ?_
  refine h_iadd (pc' := 1248) rfl rfl hy3 ci_1 rfl (by omega) (by omega) (fun z1 hz1 => ?_)
  refine h_iald (pc' := 1249) (v := s0 0 (b3 + 1)) rfl rfl rfl hz1 (by omega) (by omega) rfl (fun z2 hz2 => ?_)
  have tz2 := h_rgv hz2
  clear hz1
  refine h_call (sp := false) (pc' := 1252) (M := [(0, .ref 9), (1, .int z2)]) rfl rfl rfl rfl rfl rfl rfl rfl ?_
  refine h_iload_n (pc' := 1) rfl rfl rfl ?_
  refine h_calls (pc' := 4) (M := [(0, .int z2)]) rfl rfl rfl rfl rfl rfl ?_
  refine h_iload_n (pc' := 1) rfl rfl rfl ?_
  refine h_zeq (tg := 9) (pc' := 4) rfl rfl rfl hz2 (fun c3 => ?_) (fun c3 => ?_)
  · refine h_iconst (pc' := 10) (x := (Int32.ofInt 1)) rfl rfl rfl ?_
    refine h_goto (pc' := 14) rfl rfl ?_
    refine h_zret rfl rfl ci_1 (by omega) (h_Kv ?_)
    refine h_zne (tg := 9) (pc' := 7) rfl rfl rfl ci_1 (fun c4 => ?_) (fun c4 => absurd c4 (by omega))
    refine h_aload_n (pc' := 10) rfl rfl rfl ?_
    refine h_getR (pc' := 13) rfl rfl rfl rfl rfl ?_
    refine h_iload_n (pc' := 14) rfl rfl rfl ?_
    have qz2 : z2 = (Int32.ofInt 0) := h_lit (show z2.toInt = 0 by omega) ci_0
    subst qz2
    refine h_bald (pc' := 15) (v := s0 62 0) rfl rfl rfl ci_0 (by omega) (by omega) rfl (fun z5 hz5 => ?_)
    have tz5 := ty_62 I0 0
    clear hz2
    refine h_zne (tg := 21) (pc' := 18) rfl rfl rfl hz5 (fun c6 => ?_) (fun c6 => ?_)
    · clear hz5
      refine h_aload_n (pc' := 22) rfl rfl rfl ?_
      refine h_getR (pc' := 25) rfl rfl rfl rfl rfl ?_
      refine h_aload_n (pc' := 26) rfl rfl rfl ?_
      refine h_iload_n (pc' := 27) rfl rfl rfl ?_
      refine h_call (sp := false) (pc' := 30) (M := [(0, .ref 9), (1, .int (Int32.ofInt 0))]) rfl rfl rfl rfl rfl rfl rfl rfl ?_
      refine h_iload_n (pc' := 1) rfl rfl rfl ?_
      refine h_zne (tg := 11) (pc' := 4) rfl rfl rfl ci_0 (fun c7 => absurd (Int.le_antisymm (by omega) (by omega)) c7) (fun c7 => ?_)
      refine h_aload_n (pc' := 5) rfl rfl rfl ?_
      refine h_getR (pc' := 8) rfl rfl rfl rfl rfl ?_
      refine h_goto (pc' := 15) rfl rfl ?_
      refine h_aret rfl rfl (h_Kv ?_)
      refine h_call (sp := false) (pc' := 33) (M := [(0, .ref 10), (1, .ref 36)]) rfl rfl rfl rfl rfl rfl rfl rfl ?_
      refine n_copy_10_36 _ I0  (fun s9 Is9 Gs9 ps9_0 => h_Kn ?_)
      have Zs9 : ∀ i, s9 0 i = s0 0 i := fun i => (Gs9 0 i rfl).trans rfl
      have Fs9 : h_F (fun _ _ => true) s9 s0 := fun _ _ h => by cases h
      have es9_0 : s9 64 1 = s0 64 1 := (Gs9 64 1 rfl).trans rfl
      have es9_1 : s9 98 11 = s0 98 11 := (Gs9 98 11 rfl).trans rfl
      have es9_2 : s9 64 4 = s0 64 4 := (Gs9 64 4 rfl).trans rfl
      have es9_3 : s9 98 16 = s0 98 16 := (Gs9 98 16 rfl).trans rfl
      have es9_5 : s9 98 1 = s0 98 1 := (Gs9 98 1 rfl).trans rfl
      have es9_7 : s9 98 2 = s0 98 2 := (Gs9 98 2 rfl).trans rfl
      have es9_8 : s9 62 0 = s0 62 0 := (Gs9 62 0 rfl).trans rfl
      have es9_9 : s9 110 0 = s0 110 0 := (Gs9 110 0 rfl).trans rfl
      have es9_10 : s9 62 1 = s0 62 1 := (Gs9 62 1 rfl).trans rfl
      have es9_11 : s9 110 1 = s0 110 1 := (Gs9 110 1 rfl).trans rfl
      refine h_aload_n (pc' := 34) rfl rfl rfl ?_
      refine h_getR (pc' := 37) rfl rfl rfl rfl rfl ?_
      refine h_call (sp := false) (pc' := 40) (M := [(0, .ref 10)]) rfl rfl rfl rfl rfl rfl rfl rfl ?_
      refine n_wentX _ Is9  (fun r10 br10 hr10 ps11_0 => h_Kv ?_)
      have kr10 := hr10
      refine h_iret rfl rfl (h_Kv ?_)
      refine h_aload_n (pc' := 1253) rfl rfl rfl ?_
      refine h_aload_n (pc' := 1254) rfl rfl rfl ?_
      refine h_iload_n (pc' := 1255) rfl rfl rfl ?_
      refine h_iconst (pc' := 1256) (x := (Int32.ofInt 1)) rfl rfl rfl ?_
      refine h_iadd (pc' := 1257) rfl rfl hy3 ci_1 rfl (by omega) (by omega) (fun z12 hz12 => ?_)
      refine h_iald (pc' := 1258) (v := s0 0 (b3 + 1)) rfl rfl rfl hz12 (by omega) (by omega) (Zs9 _) (fun z13 hz13 => ?_)
      have tz13 := h_rgv hz13
      clear hz12
      refine h_call (sp := false) (pc' := 1261) (M := [(0, .ref 98), (1, .int z13)]) rfl rfl rfl rfl rfl rfl rfl rfl ?_
      refine h_iload_n (pc' := 1) rfl rfl rfl ?_
      refine h_i2l (pc' := 2) rfl rfl hz13 (fun z14 hz14 => ?_)
      refine h_lconst (pc' := 3) (x := (Int64.ofInt 0)) rfl rfl rfl ?_
      refine h_lconst (pc' := 4) (x := (Int64.ofInt 1)) rfl rfl rfl ?_
      refine h_calls (pc' := 7) (M := [(0, .long z14), (2, .long (Int64.ofInt 0)), (4, .long (Int64.ofInt 1))]) rfl rfl rfl rfl rfl rfl ?_
      refine h_lload_n (pc' := 1) rfl rfl rfl ?_
      refine h_lload_n (pc' := 2) rfl rfl rfl ?_
      refine h_lcmp (pc' := 3) rfl rfl hz14 cl_0 (fun z15 hz15 => ?_)
      refine h_zlt (tg := 17) (pc' := 6) rfl rfl rfl rfl (fun c16 => absurd c16 (by omega)) (fun c16 => ?_)
      replace c16 := (h_lcr hz15).2.1 c16
      clear hz15
      refine h_lload_n (pc' := 7) rfl rfl rfl ?_
      refine h_lload (pc' := 9) rfl rfl rfl ?_
      refine h_lcmp (pc' := 10) rfl rfl hz14 cl_1 (fun z17 hz17 => ?_)
      refine h_zgt (tg := 17) (pc' := 13) rfl rfl rfl rfl (fun c18 => absurd c18 (by omega)) (fun c18 => ?_)
      replace c18 := (h_lcr hz17).2.2.1 c18
      clear hz17
      refine h_iconst (pc' := 14) (x := (Int32.ofInt 1)) rfl rfl rfl ?_
      refine h_goto (pc' := 18) rfl rfl ?_
      refine h_zret rfl rfl ci_1 (by omega) (h_Kv ?_)
      clear hz14
      refine h_zne (tg := 12) (pc' := 10) rfl rfl rfl ci_1 (fun c19 => ?_) (fun c19 => absurd c19 (by omega))
      refine h_aload_n (pc' := 13) rfl rfl rfl ?_
      refine h_getR (pc' := 16) rfl rfl rfl rfl rfl ?_
      refine h_iload_n (pc' := 17) rfl rfl rfl ?_
      have qz13 : z13 = (Int32.ofInt 0) := h_lit (show z13.toInt = 0 by omega) ci_0
      subst qz13
      refine h_bald (pc' := 18) (v := s0 110 0) rfl rfl rfl ci_0 (by omega) (by omega) es9_9 (fun z20 hz20 => ?_)
      have tz20 := ty_110 I0 0
      clear hz13
      refine h_zne (tg := 24) (pc' := 21) rfl rfl rfl hz20 (fun c21 => ?_) (fun c21 => absurd c21 (by omega))
      clear hz20
      refine h_aload_n (pc' := 25) rfl rfl rfl ?_
      refine h_bipush (pc' := 27) (x := (Int32.ofInt 44)) rfl rfl cb_44 ?_
      refine h_iload_n (pc' := 28) rfl rfl rfl ?_
      refine h_iconst (pc' := 29) (x := (Int32.ofInt 1)) rfl rfl rfl ?_
      refine h_iadd (pc' := 30) (c := 1) rfl rfl ci_0 ci_1 rfl (by omega) (by omega) (fun z22 hz22 => ?_)
      refine h_imul (pc' := 31) (c := 44) rfl rfl ci_44 hz22 rfl (by omega) (by omega) (fun z23 hz23 => ?_)
      clear hz22
      refine h_iconst (pc' := 32) (x := (Int32.ofInt 0)) rfl rfl rfl ?_
      have qz23 : z23 = (Int32.ofInt 44) := h_lit hz23 ci_44
      subst qz23
      refine h_call (sp := false) (pc' := 35) (M := [(0, .ref 98), (1, .int (Int32.ofInt 44)), (2, .int (Int32.ofInt 0))]) rfl rfl rfl rfl rfl rfl rfl rfl ?_
      refine n_copies_44_0 _ Is9   (fun s25 Is25 Gs25 ps25_0 => h_Kn ?_)
      have Zs25 : ∀ i, s25 0 i = s0 0 i := fun i => (Gs25 0 i rfl).trans (Zs9 i)
      have Fs25 : h_F (fun _ _ => true) s25 s0 := fun _ _ h => by cases h
      have es25_0 : s25 64 1 = s0 64 1 := (Gs25 64 1 rfl).trans es9_0
      have es25_1 : s25 98 11 = s0 98 11 := (Gs25 98 11 rfl).trans es9_1
      have es25_2 : s25 64 4 = s0 64 4 := (Gs25 64 4 rfl).trans es9_2
      have es25_3 : s25 98 16 = s0 98 16 := (Gs25 98 16 rfl).trans es9_3
      have es25_4 : s25 10 8 = s9 10 8 := (Gs25 10 8 rfl).trans rfl
      have es25_5 : s25 98 1 = s0 98 1 := (Gs25 98 1 rfl).trans es9_5
      have es25_6 : s25 10 9 = s9 10 9 := (Gs25 10 9 rfl).trans rfl
      have es25_7 : s25 98 2 = s0 98 2 := (Gs25 98 2 rfl).trans es9_7
      have es25_8 : s25 62 0 = s0 62 0 := (Gs25 62 0 rfl).trans es9_8
      have es25_9 : s25 110 0 = s0 110 0 := (Gs25 110 0 rfl).trans es9_9
      have es25_10 : s25 62 1 = s0 62 1 := (Gs25 62 1 rfl).trans es9_10
      have es25_11 : s25 110 1 = s0 110 1 := (Gs25 110 1 rfl).trans es9_11
      clear hz23
      refine h_aload_n (pc' := 36) rfl rfl rfl ?_
      refine h_call (sp := false) (pc' := 39) (M := [(0, .ref 98)]) rfl rfl rfl rfl rfl rfl rfl rfl ?_
      refine n_wentM _ Is25  (fun r26 br26 hr26 ps27_0 => h_Kv ?_)
      have kr26 := hr26
      refine h_iret rfl rfl (h_Kv ?_)
      refine h_ceq (tg := 1441) (pc' := 1264) rfl rfl rfl hr10 hr26 (fun c28 => ?_) (fun c28 => ?_)
      · exact kk _ Is25 (by first | exact d_tape.le j0 (Int.le_antisymm (by omega) (by omega)) (by omega) (fun j => (Gs25 65 j rfl).trans ((Gs9 65 j rfl))) (fun j => (Gs25 102 j rfl).trans ((Gs9 102 j rfl))) | (exfalso; omega)) (Int.le_antisymm (by omega) (by omega)) (c_R.back0 j2 I0 (by omega) (Int.le_antisymm (by omega) (by omega)) (Int.le_antisymm (by omega) (by omega)) ((c_eq.fr (fl := true) Gs25 rfl).tr (ps9_0.wk.tr c_eq.rf)) ((c_eq.fr (fl := true) Gs25 rfl).tr (c_eq.fr (fl := true) Gs9 rfl)) ((c_eq.fr (fl := true) Gs25 rfl).tr (c_eq.fr (fl := true) Gs9 rfl)) (fun j a b => (ps25_0 j a b).trans ((Gs9.no (q := 99) (l := 44) (u := 87) (j := 44 + j) rfl (by omega) (by omega)))) ((c_pg.fr (fl := true) (o := 44) Gs9 rfl).tr (c_pg.fr (fl := true) (o := 44) Gs25 rfl)) ((c_pg.fr (fl := true) (o := 88) Gs9 rfl).tr (c_pg.fr (fl := true) (o := 88) Gs25 rfl)) (Int.le_antisymm (by omega) (by omega)) (Int.le_antisymm (by omega) (by omega)) (Int.le_antisymm (by omega) (by omega)) (Int.le_antisymm (by omega) (by omega))) (g_ti.e j3 ((funext (fun j => Gs25 100 j rfl)).trans (funext (fun j => Gs9 100 j rfl)))) (g_SH.e j4 ((funext (fun j => Gs25 94 j rfl)).trans (funext (fun j => Gs9 94 j rfl))) ((funext (fun j => Gs25 95 j rfl)).trans (funext (fun j => Gs9 95 j rfl))) ((funext (fun j => Gs25 96 j rfl)).trans (funext (fun j => Gs9 96 j rfl))) ((funext (fun j => Gs25 111 j rfl)).trans (funext (fun j => Gs9 111 j rfl))) ((funext (fun j => Gs25 112 j rfl)).trans (funext (fun j => Gs9 112 j rfl))) ((funext (fun j => Gs25 113 j rfl)).trans (funext (fun j => Gs9 113 j rfl))))
      · refine h_iconst (pc' := 1265) (x := (Int32.ofInt 0)) rfl rfl rfl ?_
        have gR : c_R true s25 := (c_R.back0 j2 I0 (by omega) (Int.le_antisymm (by omega) (by omega)) (Int.le_antisymm (by omega) (by omega)) ((c_eq.fr (fl := true) Gs25 rfl).tr (ps9_0.wk.tr c_eq.rf)) ((c_eq.fr (fl := true) Gs25 rfl).tr (c_eq.fr (fl := true) Gs9 rfl)) ((c_eq.fr (fl := true) Gs25 rfl).tr (c_eq.fr (fl := true) Gs9 rfl)) (fun j a b => (ps25_0 j a b).trans ((Gs9.no (q := 99) (l := 44) (u := 87) (j := 44 + j) rfl (by omega) (by omega)))) ((c_pg.fr (fl := true) (o := 44) Gs9 rfl).tr (c_pg.fr (fl := true) (o := 44) Gs25 rfl)) ((c_pg.fr (fl := true) (o := 88) Gs9 rfl).tr (c_pg.fr (fl := true) (o := 88) Gs25 rfl)) (Int.le_antisymm (by omega) (by omega)) (Int.le_antisymm (by omega) (by omega)) (Int.le_antisymm (by omega) (by omega)) (Int.le_antisymm (by omega) (by omega)))
        have gc := congrArg Int32.toInt (ps11_0.trans ((g_su_c (Gs25 10 9 rfl).symm (funext (fun j => Gs25 21 j rfl)).symm).trans ((gR.su rfl rfl).trans ps27_0.symm)))
        exfalso
        omega
    · clear hz5
      refine h_bipush (pc' := 20) (x := (Int32.ofInt (-2))) rfl rfl cb_m2 ?_
      refine h_iret rfl rfl (h_Kv ?_)
      refine h_aload_n (pc' := 1253) rfl rfl rfl ?_
      refine h_aload_n (pc' := 1254) rfl rfl rfl ?_
      refine h_iload_n (pc' := 1255) rfl rfl rfl ?_
      refine h_iconst (pc' := 1256) (x := (Int32.ofInt 1)) rfl rfl rfl ?_
      refine h_iadd (pc' := 1257) rfl rfl hy3 ci_1 rfl (by omega) (by omega) (fun z29 hz29 => ?_)
      refine h_iald (pc' := 1258) (v := s0 0 (b3 + 1)) rfl rfl rfl hz29 (by omega) (by omega) rfl (fun z30 hz30 => ?_)
      have tz30 := h_rgv hz30
      clear hz29
      refine h_call (sp := false) (pc' := 1261) (M := [(0, .ref 98), (1, .int z30)]) rfl rfl rfl rfl rfl rfl rfl rfl ?_
      refine h_iload_n (pc' := 1) rfl rfl rfl ?_
      refine h_i2l (pc' := 2) rfl rfl hz30 (fun z31 hz31 => ?_)
      refine h_lconst (pc' := 3) (x := (Int64.ofInt 0)) rfl rfl rfl ?_
      refine h_lconst (pc' := 4) (x := (Int64.ofInt 1)) rfl rfl rfl ?_
      refine h_calls (pc' := 7) (M := [(0, .long z31), (2, .long (Int64.ofInt 0)), (4, .long (Int64.ofInt 1))]) rfl rfl rfl rfl rfl rfl ?_
      refine h_lload_n (pc' := 1) rfl rfl rfl ?_
      refine h_lload_n (pc' := 2) rfl rfl rfl ?_
      refine h_lcmp (pc' := 3) rfl rfl hz31 cl_0 (fun z32 hz32 => ?_)
      refine h_zlt (tg := 17) (pc' := 6) rfl rfl rfl rfl (fun c33 => absurd c33 (by omega)) (fun c33 => ?_)
      replace c33 := (h_lcr hz32).2.1 c33
      clear hz32
      refine h_lload_n (pc' := 7) rfl rfl rfl ?_
      refine h_lload (pc' := 9) rfl rfl rfl ?_
      refine h_lcmp (pc' := 10) rfl rfl hz31 cl_1 (fun z34 hz34 => ?_)
      refine h_zgt (tg := 17) (pc' := 13) rfl rfl rfl rfl (fun c35 => absurd c35 (by omega)) (fun c35 => ?_)
      replace c35 := (h_lcr hz34).2.2.1 c35
      clear hz34
      refine h_iconst (pc' := 14) (x := (Int32.ofInt 1)) rfl rfl rfl ?_
      refine h_goto (pc' := 18) rfl rfl ?_
      refine h_zret rfl rfl ci_1 (by omega) (h_Kv ?_)
      clear hz31
      refine h_zne (tg := 12) (pc' := 10) rfl rfl rfl ci_1 (fun c36 => ?_) (fun c36 => absurd c36 (by omega))
      refine h_aload_n (pc' := 13) rfl rfl rfl ?_
      refine h_getR (pc' := 16) rfl rfl rfl rfl rfl ?_
      refine h_iload_n (pc' := 17) rfl rfl rfl ?_
      have qz30 : z30 = (Int32.ofInt 0) := h_lit (show z30.toInt = 0 by omega) ci_0
      subst qz30
      refine h_bald (pc' := 18) (v := s0 110 0) rfl rfl rfl ci_0 (by omega) (by omega) rfl (fun z37 hz37 => ?_)
      have tz37 := ty_110 I0 0
      clear hz30
      refine h_zne (tg := 24) (pc' := 21) rfl rfl rfl hz37 (fun c38 => absurd (Int.le_antisymm (by omega) (by omega)) c38) (fun c38 => ?_)
      clear hz37
      refine h_bipush (pc' := 23) (x := (Int32.ofInt (-2))) rfl rfl cb_m2 ?_
      refine h_iret rfl rfl (h_Kv ?_)
      refine h_ceq (tg := 1441) (pc' := 1264) rfl rfl rfl ci_m2 ci_m2 (fun c39 => ?_) (fun c39 => absurd (Int.le_antisymm (by omega) (by omega)) c39)
      exact kk _ I0 (by first | exact d_tape.le j0 (Int.le_antisymm (by omega) (by omega)) (by omega) (fun j => rfl) (fun j => rfl) | (exfalso; omega)) (Int.le_antisymm (by omega) (by omega)) j2 (g_ti.e j3 rfl) (g_SH.e j4 rfl rfl rfl rfl rfl rfl)
  · refine h_iload_n (pc' := 5) rfl rfl rfl ?_
    refine h_iconst (pc' := 6) (x := (Int32.ofInt 1)) rfl rfl rfl ?_
    refine h_cne (tg := 13) (pc' := 9) rfl rfl rfl hz2 ci_1 (fun c40 => ?_) (fun c40 => ?_)
    · refine h_iconst (pc' := 14) (x := (Int32.ofInt 0)) rfl rfl rfl ?_
      refine h_zret rfl rfl ci_0 (by omega) (h_Kv ?_)
      refine h_zne (tg := 9) (pc' := 7) rfl rfl rfl ci_0 (fun c41 => absurd (Int.le_antisymm (by omega) (by omega)) c41) (fun c41 => ?_)
      refine h_iconst (pc' := 8) (x := (Int32.ofInt (-1))) rfl rfl rfl ?_
      refine h_iret rfl rfl (h_Kv ?_)
      clear hz2
      refine h_aload_n (pc' := 1253) rfl rfl rfl ?_
      refine h_aload_n (pc' := 1254) rfl rfl rfl ?_
      refine h_iload_n (pc' := 1255) rfl rfl rfl ?_
      refine h_iconst (pc' := 1256) (x := (Int32.ofInt 1)) rfl rfl rfl ?_
      refine h_iadd (pc' := 1257) rfl rfl hy3 ci_1 rfl (by omega) (by omega) (fun z42 hz42 => ?_)
      refine h_iald (pc' := 1258) (v := s0 0 (b3 + 1)) rfl rfl rfl hz42 (by omega) (by omega) rfl (fun z43 hz43 => ?_)
      have tz43 := h_rgv hz43
      clear hz42
      refine h_call (sp := false) (pc' := 1261) (M := [(0, .ref 98), (1, .int z43)]) rfl rfl rfl rfl rfl rfl rfl rfl ?_
      refine h_iload_n (pc' := 1) rfl rfl rfl ?_
      refine h_i2l (pc' := 2) rfl rfl hz43 (fun z44 hz44 => ?_)
      refine h_lconst (pc' := 3) (x := (Int64.ofInt 0)) rfl rfl rfl ?_
      refine h_lconst (pc' := 4) (x := (Int64.ofInt 1)) rfl rfl rfl ?_
      refine h_calls (pc' := 7) (M := [(0, .long z44), (2, .long (Int64.ofInt 0)), (4, .long (Int64.ofInt 1))]) rfl rfl rfl rfl rfl rfl ?_
      refine h_lload_n (pc' := 1) rfl rfl rfl ?_
      refine h_lload_n (pc' := 2) rfl rfl rfl ?_
      refine h_lcmp (pc' := 3) rfl rfl hz44 cl_0 (fun z45 hz45 => ?_)
      refine h_zlt (tg := 17) (pc' := 6) rfl rfl rfl rfl (fun c46 => ?_) (fun c46 => ?_)
      · replace c46 := (h_lcr hz45).1 c46
        clear hz45
        refine h_iconst (pc' := 18) (x := (Int32.ofInt 0)) rfl rfl rfl ?_
        refine h_zret rfl rfl ci_0 (by omega) (h_Kv ?_)
        clear hz44
        refine h_zne (tg := 12) (pc' := 10) rfl rfl rfl ci_0 (fun c47 => absurd (Int.le_antisymm (by omega) (by omega)) c47) (fun c47 => ?_)
        refine h_iconst (pc' := 11) (x := (Int32.ofInt (-1))) rfl rfl rfl ?_
        refine h_iret rfl rfl (h_Kv ?_)
        clear hz43
        refine h_ceq (tg := 1441) (pc' := 1264) rfl rfl rfl ci_m1 ci_m1 (fun c48 => ?_) (fun c48 => absurd (Int.le_antisymm (by omega) (by omega)) c48)
        exact kk _ I0 (by first | exact d_tape.le j0 (Int.le_antisymm (by omega) (by omega)) (by omega) (fun j => rfl) (fun j => rfl) | (exfalso; omega)) (Int.le_antisymm (by omega) (by omega)) j2 (g_ti.e j3 rfl) (g_SH.e j4 rfl rfl rfl rfl rfl rfl)
      · replace c46 := (h_lcr hz45).2.1 c46
        clear hz45
        refine h_lload_n (pc' := 7) rfl rfl rfl ?_
        refine h_lload (pc' := 9) rfl rfl rfl ?_
        refine h_lcmp (pc' := 10) rfl rfl hz44 cl_1 (fun z49 hz49 => ?_)
        refine h_zgt (tg := 17) (pc' := 13) rfl rfl rfl rfl (fun c50 => ?_) (fun c50 => absurd c50 (by omega))
        replace c50 := (h_lcr hz49).2.2.2.1 c50
        clear hz49
        refine h_iconst (pc' := 18) (x := (Int32.ofInt 0)) rfl rfl rfl ?_
        refine h_zret rfl rfl ci_0 (by omega) (h_Kv ?_)
        clear hz44
        refine h_zne (tg := 12) (pc' := 10) rfl rfl rfl ci_0 (fun c51 => absurd (Int.le_antisymm (by omega) (by omega)) c51) (fun c51 => ?_)
        refine h_iconst (pc' := 11) (x := (Int32.ofInt (-1))) rfl rfl rfl ?_
        refine h_iret rfl rfl (h_Kv ?_)
        clear hz43
        refine h_ceq (tg := 1441) (pc' := 1264) rfl rfl rfl ci_m1 ci_m1 (fun c52 => ?_) (fun c52 => absurd (Int.le_antisymm (by omega) (by omega)) c52)
        exact kk _ I0 (by first | exact d_tape.le j0 (Int.le_antisymm (by omega) (by omega)) (by omega) (fun j => rfl) (fun j => rfl) | (exfalso; omega)) (Int.le_antisymm (by omega) (by omega)) j2 (g_ti.e j3 rfl) (g_SH.e j4 rfl rfl rfl rfl rfl rfl)
    · refine h_iconst (pc' := 10) (x := (Int32.ofInt 1)) rfl rfl rfl ?_
      refine h_goto (pc' := 14) rfl rfl ?_
      refine h_zret rfl rfl ci_1 (by omega) (h_Kv ?_)
      refine h_zne (tg := 9) (pc' := 7) rfl rfl rfl ci_1 (fun c53 => ?_) (fun c53 => absurd c53 (by omega))
      refine h_aload_n (pc' := 10) rfl rfl rfl ?_
      refine h_getR (pc' := 13) rfl rfl rfl rfl rfl ?_
      refine h_iload_n (pc' := 14) rfl rfl rfl ?_
      have qz2 : z2 = (Int32.ofInt 1) := h_lit (show z2.toInt = 1 by omega) ci_1
      subst qz2
      refine h_bald (pc' := 15) (v := s0 62 1) rfl rfl rfl ci_1 (by omega) (by omega) rfl (fun z54 hz54 => ?_)
      have tz54 := ty_62 I0 1
      clear hz2
      refine h_zne (tg := 21) (pc' := 18) rfl rfl rfl hz54 (fun c55 => ?_) (fun c55 => ?_)
      · clear hz54
        refine h_aload_n (pc' := 22) rfl rfl rfl ?_
        refine h_getR (pc' := 25) rfl rfl rfl rfl rfl ?_
        refine h_aload_n (pc' := 26) rfl rfl rfl ?_
        refine h_iload_n (pc' := 27) rfl rfl rfl ?_
        refine h_call (sp := false) (pc' := 30) (M := [(0, .ref 9), (1, .int (Int32.ofInt 1))]) rfl rfl rfl rfl rfl rfl rfl rfl ?_
        refine h_iload_n (pc' := 1) rfl rfl rfl ?_
        refine h_zne (tg := 11) (pc' := 4) rfl rfl rfl ci_1 (fun c56 => ?_) (fun c56 => absurd c56 (by omega))
        refine h_aload_n (pc' := 12) rfl rfl rfl ?_
        refine h_getR (pc' := 15) rfl rfl rfl rfl rfl ?_
        refine h_aret rfl rfl (h_Kv ?_)
        refine h_call (sp := false) (pc' := 33) (M := [(0, .ref 10), (1, .ref 49)]) rfl rfl rfl rfl rfl rfl rfl rfl ?_
        refine n_copy_10_49 _ I0  (fun s58 Is58 Gs58 ps58_0 => h_Kn ?_)
        have Zs58 : ∀ i, s58 0 i = s0 0 i := fun i => (Gs58 0 i rfl).trans rfl
        have Fs58 : h_F (fun _ _ => true) s58 s0 := fun _ _ h => by cases h
        have es58_0 : s58 64 1 = s0 64 1 := (Gs58 64 1 rfl).trans rfl
        have es58_1 : s58 98 11 = s0 98 11 := (Gs58 98 11 rfl).trans rfl
        have es58_2 : s58 64 4 = s0 64 4 := (Gs58 64 4 rfl).trans rfl
        have es58_3 : s58 98 16 = s0 98 16 := (Gs58 98 16 rfl).trans rfl
        have es58_5 : s58 98 1 = s0 98 1 := (Gs58 98 1 rfl).trans rfl
        have es58_7 : s58 98 2 = s0 98 2 := (Gs58 98 2 rfl).trans rfl
        have es58_8 : s58 62 0 = s0 62 0 := (Gs58 62 0 rfl).trans rfl
        have es58_9 : s58 110 0 = s0 110 0 := (Gs58 110 0 rfl).trans rfl
        have es58_10 : s58 62 1 = s0 62 1 := (Gs58 62 1 rfl).trans rfl
        have es58_11 : s58 110 1 = s0 110 1 := (Gs58 110 1 rfl).trans rfl
        refine h_aload_n (pc' := 34) rfl rfl rfl ?_
        refine h_getR (pc' := 37) rfl rfl rfl rfl rfl ?_
        refine h_call (sp := false) (pc' := 40) (M := [(0, .ref 10)]) rfl rfl rfl rfl rfl rfl rfl rfl ?_
        refine n_wentX _ Is58  (fun r59 br59 hr59 ps60_0 => h_Kv ?_)
        have kr59 := hr59
        refine h_iret rfl rfl (h_Kv ?_)
        refine h_aload_n (pc' := 1253) rfl rfl rfl ?_
        refine h_aload_n (pc' := 1254) rfl rfl rfl ?_
        refine h_iload_n (pc' := 1255) rfl rfl rfl ?_
        refine h_iconst (pc' := 1256) (x := (Int32.ofInt 1)) rfl rfl rfl ?_
        refine h_iadd (pc' := 1257) rfl rfl hy3 ci_1 rfl (by omega) (by omega) (fun z61 hz61 => ?_)
        refine h_iald (pc' := 1258) (v := s0 0 (b3 + 1)) rfl rfl rfl hz61 (by omega) (by omega) (Zs58 _) (fun z62 hz62 => ?_)
        have tz62 := h_rgv hz62
        clear hz61
        refine h_call (sp := false) (pc' := 1261) (M := [(0, .ref 98), (1, .int z62)]) rfl rfl rfl rfl rfl rfl rfl rfl ?_
        refine h_iload_n (pc' := 1) rfl rfl rfl ?_
        refine h_i2l (pc' := 2) rfl rfl hz62 (fun z63 hz63 => ?_)
        refine h_lconst (pc' := 3) (x := (Int64.ofInt 0)) rfl rfl rfl ?_
        refine h_lconst (pc' := 4) (x := (Int64.ofInt 1)) rfl rfl rfl ?_
        refine h_calls (pc' := 7) (M := [(0, .long z63), (2, .long (Int64.ofInt 0)), (4, .long (Int64.ofInt 1))]) rfl rfl rfl rfl rfl rfl ?_
        refine h_lload_n (pc' := 1) rfl rfl rfl ?_
        refine h_lload_n (pc' := 2) rfl rfl rfl ?_
        refine h_lcmp (pc' := 3) rfl rfl hz63 cl_0 (fun z64 hz64 => ?_)
        refine h_zlt (tg := 17) (pc' := 6) rfl rfl rfl rfl (fun c65 => absurd c65 (by omega)) (fun c65 => ?_)
        replace c65 := (h_lcr hz64).2.1 c65
        clear hz64
        refine h_lload_n (pc' := 7) rfl rfl rfl ?_
        refine h_lload (pc' := 9) rfl rfl rfl ?_
        refine h_lcmp (pc' := 10) rfl rfl hz63 cl_1 (fun z66 hz66 => ?_)
        refine h_zgt (tg := 17) (pc' := 13) rfl rfl rfl rfl (fun c67 => absurd c67 (by omega)) (fun c67 => ?_)
        replace c67 := (h_lcr hz66).2.2.1 c67
        clear hz66
        refine h_iconst (pc' := 14) (x := (Int32.ofInt 1)) rfl rfl rfl ?_
        refine h_goto (pc' := 18) rfl rfl ?_
        refine h_zret rfl rfl ci_1 (by omega) (h_Kv ?_)
        clear hz63
        refine h_zne (tg := 12) (pc' := 10) rfl rfl rfl ci_1 (fun c68 => ?_) (fun c68 => absurd c68 (by omega))
        refine h_aload_n (pc' := 13) rfl rfl rfl ?_
        refine h_getR (pc' := 16) rfl rfl rfl rfl rfl ?_
        refine h_iload_n (pc' := 17) rfl rfl rfl ?_
        have qz62 : z62 = (Int32.ofInt 1) := h_lit (show z62.toInt = 1 by omega) ci_1
        subst qz62
        refine h_bald (pc' := 18) (v := s0 110 1) rfl rfl rfl ci_1 (by omega) (by omega) es58_11 (fun z69 hz69 => ?_)
        have tz69 := ty_110 I0 1
        clear hz62
        refine h_zne (tg := 24) (pc' := 21) rfl rfl rfl hz69 (fun c70 => ?_) (fun c70 => absurd c70 (by omega))
        clear hz69
        refine h_aload_n (pc' := 25) rfl rfl rfl ?_
        refine h_bipush (pc' := 27) (x := (Int32.ofInt 44)) rfl rfl cb_44 ?_
        refine h_iload_n (pc' := 28) rfl rfl rfl ?_
        refine h_iconst (pc' := 29) (x := (Int32.ofInt 1)) rfl rfl rfl ?_
        refine h_iadd (pc' := 30) (c := 2) rfl rfl ci_1 ci_1 rfl (by omega) (by omega) (fun z71 hz71 => ?_)
        refine h_imul (pc' := 31) (c := 88) rfl rfl ci_44 hz71 rfl (by omega) (by omega) (fun z72 hz72 => ?_)
        clear hz71
        refine h_iconst (pc' := 32) (x := (Int32.ofInt 0)) rfl rfl rfl ?_
        have qz72 : z72 = (Int32.ofInt 88) := h_lit hz72 ci_88
        subst qz72
        refine h_call (sp := false) (pc' := 35) (M := [(0, .ref 98), (1, .int (Int32.ofInt 88)), (2, .int (Int32.ofInt 0))]) rfl rfl rfl rfl rfl rfl rfl rfl ?_
        refine n_copies_88_0 _ Is58   (fun s74 Is74 Gs74 ps74_0 => h_Kn ?_)
        have Zs74 : ∀ i, s74 0 i = s0 0 i := fun i => (Gs74 0 i rfl).trans (Zs58 i)
        have Fs74 : h_F (fun _ _ => true) s74 s0 := fun _ _ h => by cases h
        have es74_0 : s74 64 1 = s0 64 1 := (Gs74 64 1 rfl).trans es58_0
        have es74_1 : s74 98 11 = s0 98 11 := (Gs74 98 11 rfl).trans es58_1
        have es74_2 : s74 64 4 = s0 64 4 := (Gs74 64 4 rfl).trans es58_2
        have es74_3 : s74 98 16 = s0 98 16 := (Gs74 98 16 rfl).trans es58_3
        have es74_4 : s74 10 8 = s58 10 8 := (Gs74 10 8 rfl).trans rfl
        have es74_5 : s74 98 1 = s0 98 1 := (Gs74 98 1 rfl).trans es58_5
        have es74_6 : s74 10 9 = s58 10 9 := (Gs74 10 9 rfl).trans rfl
        have es74_7 : s74 98 2 = s0 98 2 := (Gs74 98 2 rfl).trans es58_7
        have es74_8 : s74 62 0 = s0 62 0 := (Gs74 62 0 rfl).trans es58_8
        have es74_9 : s74 110 0 = s0 110 0 := (Gs74 110 0 rfl).trans es58_9
        have es74_10 : s74 62 1 = s0 62 1 := (Gs74 62 1 rfl).trans es58_10
        have es74_11 : s74 110 1 = s0 110 1 := (Gs74 110 1 rfl).trans es58_11
        clear hz72
        refine h_aload_n (pc' := 36) rfl rfl rfl ?_
        refine h_call (sp := false) (pc' := 39) (M := [(0, .ref 98)]) rfl rfl rfl rfl rfl rfl rfl rfl ?_
        refine n_wentM _ Is74  (fun r75 br75 hr75 ps76_0 => h_Kv ?_)
        have kr75 := hr75
        refine h_iret rfl rfl (h_Kv ?_)
        refine h_ceq (tg := 1441) (pc' := 1264) rfl rfl rfl hr59 hr75 (fun c77 => ?_) (fun c77 => ?_)
        · exact kk _ Is74 (by first | exact d_tape.le j0 (Int.le_antisymm (by omega) (by omega)) (by omega) (fun j => (Gs74 65 j rfl).trans ((Gs58 65 j rfl))) (fun j => (Gs74 102 j rfl).trans ((Gs58 102 j rfl))) | (exfalso; omega)) (Int.le_antisymm (by omega) (by omega)) (c_R.back1 j2 I0 (by omega) (Int.le_antisymm (by omega) (by omega)) (Int.le_antisymm (by omega) (by omega)) ((c_eq.fr (fl := true) Gs74 rfl).tr (ps58_0.wk.tr c_eq.rf)) ((c_eq.fr (fl := true) Gs74 rfl).tr (c_eq.fr (fl := true) Gs58 rfl)) ((c_eq.fr (fl := true) Gs74 rfl).tr (c_eq.fr (fl := true) Gs58 rfl)) (fun j a b => (ps74_0 j a b).trans ((Gs58.no (q := 99) (l := 88) (u := 131) (j := 88 + j) rfl (by omega) (by omega)))) ((c_pg.fr (fl := true) (o := 44) Gs58 rfl).tr (c_pg.fr (fl := true) (o := 44) Gs74 rfl)) ((c_pg.fr (fl := true) (o := 88) Gs58 rfl).tr (c_pg.fr (fl := true) (o := 88) Gs74 rfl)) (Int.le_antisymm (by omega) (by omega)) (Int.le_antisymm (by omega) (by omega)) (Int.le_antisymm (by omega) (by omega)) (Int.le_antisymm (by omega) (by omega))) (g_ti.e j3 ((funext (fun j => Gs74 100 j rfl)).trans (funext (fun j => Gs58 100 j rfl)))) (g_SH.e j4 ((funext (fun j => Gs74 94 j rfl)).trans (funext (fun j => Gs58 94 j rfl))) ((funext (fun j => Gs74 95 j rfl)).trans (funext (fun j => Gs58 95 j rfl))) ((funext (fun j => Gs74 96 j rfl)).trans (funext (fun j => Gs58 96 j rfl))) ((funext (fun j => Gs74 111 j rfl)).trans (funext (fun j => Gs58 111 j rfl))) ((funext (fun j => Gs74 112 j rfl)).trans (funext (fun j => Gs58 112 j rfl))) ((funext (fun j => Gs74 113 j rfl)).trans (funext (fun j => Gs58 113 j rfl))))
        · refine h_iconst (pc' := 1265) (x := (Int32.ofInt 0)) rfl rfl rfl ?_
          have gR : c_R true s74 := (c_R.back1 j2 I0 (by omega) (Int.le_antisymm (by omega) (by omega)) (Int.le_antisymm (by omega) (by omega)) ((c_eq.fr (fl := true) Gs74 rfl).tr (ps58_0.wk.tr c_eq.rf)) ((c_eq.fr (fl := true) Gs74 rfl).tr (c_eq.fr (fl := true) Gs58 rfl)) ((c_eq.fr (fl := true) Gs74 rfl).tr (c_eq.fr (fl := true) Gs58 rfl)) (fun j a b => (ps74_0 j a b).trans ((Gs58.no (q := 99) (l := 88) (u := 131) (j := 88 + j) rfl (by omega) (by omega)))) ((c_pg.fr (fl := true) (o := 44) Gs58 rfl).tr (c_pg.fr (fl := true) (o := 44) Gs74 rfl)) ((c_pg.fr (fl := true) (o := 88) Gs58 rfl).tr (c_pg.fr (fl := true) (o := 88) Gs74 rfl)) (Int.le_antisymm (by omega) (by omega)) (Int.le_antisymm (by omega) (by omega)) (Int.le_antisymm (by omega) (by omega)) (Int.le_antisymm (by omega) (by omega)))
          have gc := congrArg Int32.toInt (ps60_0.trans ((g_su_c (Gs74 10 9 rfl).symm (funext (fun j => Gs74 21 j rfl)).symm).trans ((gR.su rfl rfl).trans ps76_0.symm)))
          exfalso
          omega
      · clear hz54
        refine h_bipush (pc' := 20) (x := (Int32.ofInt (-2))) rfl rfl cb_m2 ?_
        refine h_iret rfl rfl (h_Kv ?_)
        refine h_aload_n (pc' := 1253) rfl rfl rfl ?_
        refine h_aload_n (pc' := 1254) rfl rfl rfl ?_
        refine h_iload_n (pc' := 1255) rfl rfl rfl ?_
        refine h_iconst (pc' := 1256) (x := (Int32.ofInt 1)) rfl rfl rfl ?_
        refine h_iadd (pc' := 1257) rfl rfl hy3 ci_1 rfl (by omega) (by omega) (fun z78 hz78 => ?_)
        refine h_iald (pc' := 1258) (v := s0 0 (b3 + 1)) rfl rfl rfl hz78 (by omega) (by omega) rfl (fun z79 hz79 => ?_)
        have tz79 := h_rgv hz79
        clear hz78
        refine h_call (sp := false) (pc' := 1261) (M := [(0, .ref 98), (1, .int z79)]) rfl rfl rfl rfl rfl rfl rfl rfl ?_
        refine h_iload_n (pc' := 1) rfl rfl rfl ?_
        refine h_i2l (pc' := 2) rfl rfl hz79 (fun z80 hz80 => ?_)
        refine h_lconst (pc' := 3) (x := (Int64.ofInt 0)) rfl rfl rfl ?_
        refine h_lconst (pc' := 4) (x := (Int64.ofInt 1)) rfl rfl rfl ?_
        refine h_calls (pc' := 7) (M := [(0, .long z80), (2, .long (Int64.ofInt 0)), (4, .long (Int64.ofInt 1))]) rfl rfl rfl rfl rfl rfl ?_
        refine h_lload_n (pc' := 1) rfl rfl rfl ?_
        refine h_lload_n (pc' := 2) rfl rfl rfl ?_
        refine h_lcmp (pc' := 3) rfl rfl hz80 cl_0 (fun z81 hz81 => ?_)
        refine h_zlt (tg := 17) (pc' := 6) rfl rfl rfl rfl (fun c82 => absurd c82 (by omega)) (fun c82 => ?_)
        replace c82 := (h_lcr hz81).2.1 c82
        clear hz81
        refine h_lload_n (pc' := 7) rfl rfl rfl ?_
        refine h_lload (pc' := 9) rfl rfl rfl ?_
        refine h_lcmp (pc' := 10) rfl rfl hz80 cl_1 (fun z83 hz83 => ?_)
        refine h_zgt (tg := 17) (pc' := 13) rfl rfl rfl rfl (fun c84 => absurd c84 (by omega)) (fun c84 => ?_)
        replace c84 := (h_lcr hz83).2.2.1 c84
        clear hz83
        refine h_iconst (pc' := 14) (x := (Int32.ofInt 1)) rfl rfl rfl ?_
        refine h_goto (pc' := 18) rfl rfl ?_
        refine h_zret rfl rfl ci_1 (by omega) (h_Kv ?_)
        clear hz80
        refine h_zne (tg := 12) (pc' := 10) rfl rfl rfl ci_1 (fun c85 => ?_) (fun c85 => absurd c85 (by omega))
        refine h_aload_n (pc' := 13) rfl rfl rfl ?_
        refine h_getR (pc' := 16) rfl rfl rfl rfl rfl ?_
        refine h_iload_n (pc' := 17) rfl rfl rfl ?_
        have qz79 : z79 = (Int32.ofInt 1) := h_lit (show z79.toInt = 1 by omega) ci_1
        subst qz79
        refine h_bald (pc' := 18) (v := s0 110 1) rfl rfl rfl ci_1 (by omega) (by omega) rfl (fun z86 hz86 => ?_)
        have tz86 := ty_110 I0 1
        clear hz79
        refine h_zne (tg := 24) (pc' := 21) rfl rfl rfl hz86 (fun c87 => absurd (Int.le_antisymm (by omega) (by omega)) c87) (fun c87 => ?_)
        clear hz86
        refine h_bipush (pc' := 23) (x := (Int32.ofInt (-2))) rfl rfl cb_m2 ?_
        refine h_iret rfl rfl (h_Kv ?_)
        refine h_ceq (tg := 1441) (pc' := 1264) rfl rfl rfl ci_m2 ci_m2 (fun c88 => ?_) (fun c88 => absurd (Int.le_antisymm (by omega) (by omega)) c88)
        exact kk _ I0 (by first | exact d_tape.le j0 (Int.le_antisymm (by omega) (by omega)) (by omega) (fun j => rfl) (fun j => rfl) | (exfalso; omega)) (Int.le_antisymm (by omega) (by omega)) j2 (g_ti.e j3 rfl) (g_SH.e j4 rfl rfl rfl rfl rfl rfl)
