set_option maxHeartbeats 100000000 in
theorem g_case_1243 {ns : Nat} (hns : ns ≤ 320) (s0 : h_S) (I0 : h_I s0) (j0 : d_tape s0 s0) (j1 : s0 64 4 = s0 98 16) (j2 : c_R true s0) (j3 : g_ti s0) (j4 : g_SH s0) (j5 : s0 90 2 = s0 98 29) (y3 : Int32) (b3 : Int) (hy3 : y3.toInt = b3) (hr : 0 ≤ b3 ∧ b3 + 5 ≤ ns) {Q : Option Value → h_S → Prop} (kk : ∀ τ, h_I τ → (d_tape τ τ) → (τ 64 4 = τ 98 16) → (c_R true τ) → (g_ti τ) → (g_SH τ) → (τ 90 2 = τ 98 29) → h_T g_P (g_Y ns) 225 1441 [(0, .ref 0), (1, .ref 9), (2, .ref 98), (3, .int y3)] [] τ Q) : h_T g_P (g_Y ns) 225 1243 [(0, .ref 0), (1, .ref 9), (2, .ref 98), (3, .int y3)] [] s0 Q := by
  have F0_ : h_F (fun _ _ => true) s0 s0 := h_F.rf
  have j0_ := j0.2
  have i0 := tf_64_1 I0
  have i1 := tf_98_11 I0
  have i2 := tf_64_4 I0
  have i3 := tf_98_16 I0
  have i4 := tf_90_2 I0
  have i5 := tf_98_29 I0
  have i6 := tf_10_8 I0
  have i7 := tf_98_1 I0
  have i8 := tf_10_9 I0
  have i9 := tf_98_2 I0
  have j2_ := j2.sz
  have j2i := j2.2.2.1
  have y62_0 := ty_62 I0 0
  have y62_1 := ty_62 I0 1
  have y110_0 := ty_110 I0 0
  have y110_1 := ty_110 I0 1
  refine h_aload_n (pc' := 1244) rfl rfl rfl ?_
  refine h_aload_n (pc' := 1245) rfl rfl rfl ?_
  refine h_iload_n (pc' := 1246) rfl rfl rfl ?_
  refine h_iconst (pc' := 1247) (x := (Int32.ofInt 1)) rfl rfl rfl ?_
  refine h_iadd (pc' := 1248) rfl rfl hy3 ci_1 rfl (by omega) (by omega) (fun z1 hz1 => ?_)
  refine h_iald (pc' := 1249) (v := s0 0 (b3 + 1)) rfl rfl rfl hz1 (by omega) (by omega) rfl (fun z2 hz2 => ?_)
  have tz2 := h_rgv hz2
  clear hz1
  refine h_call (sp := false) (pc' := 1252) (M := [(0, .ref 9), (1, .int z2)]) rfl rfl rfl rfl rfl rfl rfl rfl ?_
  refine h_iload_n (pc' := 1) rfl rfl rfl ?_
  refine h_calls (pc' := 4) (M := [(0, .int z2)]) rfl rfl rfl rfl rfl rfl ?_
  refine h_iload_n (pc' := 1) rfl rfl rfl ?_
  refine h_zeq (tg := 9) (pc' := 4) rfl rfl rfl hz2 (fun c3 => ?_) (fun c3 => ?_)
  · refine h_iconst (pc' := 10) (x := (Int32.ofInt 1)) rfl rfl rfl ?_
    refine h_goto (pc' := 14) rfl rfl ?_
    refine h_zret rfl rfl ci_1 (by omega) (h_Kv ?_)
    refine h_zne (tg := 9) (pc' := 7) rfl rfl rfl ci_1 (fun c4 => ?_) (fun c4 => absurd c4 (by omega))
    refine h_aload_n (pc' := 10) rfl rfl rfl ?_
    refine h_getR (pc' := 13) rfl rfl rfl rfl rfl ?_
    refine h_iload_n (pc' := 14) rfl rfl rfl ?_
    have qz2 : z2 = (Int32.ofInt 0) := h_lit (show z2.toInt = 0 by omega) ci_0
    subst qz2
    refine h_bald (pc' := 15) (v := s0 62 0) rfl rfl rfl ci_0 (by omega) (by omega) rfl (fun z5 hz5 => ?_)
    have tz5 := ty_62 I0 0
    clear hz2
    refine h_zne (tg := 21) (pc' := 18) rfl rfl rfl hz5 (fun c6 => ?_) (fun c6 => ?_)
    · clear hz5
      refine h_aload_n (pc' := 22) rfl rfl rfl ?_
      refine h_getR (pc' := 25) rfl rfl rfl rfl rfl ?_
      refine h_aload_n (pc' := 26) rfl rfl rfl ?_
      refine h_iload_n (pc' := 27) rfl rfl rfl ?_
      refine h_call (sp := false) (pc' := 30) (M := [(0, .ref 9), (1, .int (Int32.ofInt 0))]) rfl rfl rfl rfl rfl rfl rfl rfl ?_
      refine h_iload_n (pc' := 1) rfl rfl rfl ?_
      refine h_zne (tg := 11) (pc' := 4) rfl rfl rfl ci_0 (fun c7 => absurd (Int.le_antisymm (by omega) (by omega)) c7) (fun c7 => ?_)
      refine h_aload_n (pc' := 5) rfl rfl rfl ?_
      refine h_getR (pc' := 8) rfl rfl rfl rfl rfl ?_
      refine h_goto (pc' := 15) rfl rfl ?_
      refine h_aret rfl rfl (h_Kv ?_)
      refine h_call (sp := false) (pc' := 33) (M := [(0, .ref 10), (1, .ref 36)]) rfl rfl rfl rfl rfl rfl rfl rfl ?_
      refine n_copy_10_36 _ I0  (fun s9 Is9 Gs9 ps9_0 => h_Kn ?_)
      have Zs9 : ∀ i, s9 0 i = s0 0 i := fun i => (Gs9 0 i rfl).trans rfl
      have Fs9 : h_F (fun _ _ => true) s9 s0 := fun _ _ h => by cases h
      have es9_0 : s9 64 1 = s0 64 1 := (Gs9 64 1 rfl).trans rfl
      have es9_1 : s9 98 11 = s0 98 11 := (Gs9 98 11 rfl).trans rfl
      have es9_2 : s9 64 4 = s0 64 4 := (Gs9 64 4 rfl).trans rfl
      have es9_3 : s9 98 16 = s0 98 16 := (Gs9 98 16 rfl).trans rfl
      have es9_4 : s9 90 2 = s0 90 2 := (Gs9 90 2 rfl).trans rfl
      have es9_5 : s9 98 29 = s0 98 29 := (Gs9 98 29 rfl).trans rfl
      have es9_7 : s9 98 1 = s0 98 1 := (Gs9 98 1 rfl).trans rfl
      have es9_9 : s9 98 2 = s0 98 2 := (Gs9 98 2 rfl).trans rfl
      have es9_10 : s9 62 0 = s0 62 0 := (Gs9 62 0 rfl).trans rfl
      have es9_11 : s9 110 0 = s0 110 0 := (Gs9 110 0 rfl).trans rfl
      have es9_12 : s9 62 1 = s0 62 1 := (Gs9 62 1 rfl).trans rfl
      have es9_13 : s9 110 1 = s0 110 1 := (Gs9 110 1 rfl).trans rfl
      refine h_aload_n (pc' := 34) rfl rfl rfl ?_
      refine h_getR (pc' := 37) rfl rfl rfl rfl rfl ?_
      refine h_call (sp := false) (pc' := 40) (M := [(0, .ref 10)]) rfl rfl rfl rfl rfl rfl rfl rfl ?_
      refine w_11_10 _ Is9  (fun r10 br10 hr10 s11 Is11 Gs11 => h_Kv ?_)
      have Zs11 : ∀ i, s11 0 i = s0 0 i := fun i => (Gs11 0 i rfl).trans (Zs9 i)
      have Fs11 : h_F (fun _ _ => true) s11 s0 := fun _ _ h => by cases h
      have es11_0 : s11 64 1 = s0 64 1 := (Gs11 64 1 rfl).trans es9_0
      have es11_1 : s11 98 11 = s0 98 11 := (Gs11 98 11 rfl).trans es9_1
      have es11_2 : s11 64 4 = s0 64 4 := (Gs11 64 4 rfl).trans es9_2
      have es11_3 : s11 98 16 = s0 98 16 := (Gs11 98 16 rfl).trans es9_3
      have es11_4 : s11 90 2 = s0 90 2 := (Gs11 90 2 rfl).trans es9_4
      have es11_5 : s11 98 29 = s0 98 29 := (Gs11 98 29 rfl).trans es9_5
      have es11_6 : s11 10 8 = s9 10 8 := (Gs11 10 8 rfl).trans rfl
      have es11_7 : s11 98 1 = s0 98 1 := (Gs11 98 1 rfl).trans es9_7
      have es11_8 : s11 10 9 = s9 10 9 := (Gs11 10 9 rfl).trans rfl
      have es11_9 : s11 98 2 = s0 98 2 := (Gs11 98 2 rfl).trans es9_9
      have es11_10 : s11 62 0 = s0 62 0 := (Gs11 62 0 rfl).trans es9_10
      have es11_11 : s11 110 0 = s0 110 0 := (Gs11 110 0 rfl).trans es9_11
      have es11_12 : s11 62 1 = s0 62 1 := (Gs11 62 1 rfl).trans es9_12
      have es11_13 : s11 110 1 = s0 110 1 := (Gs11 110 1 rfl).trans es9_13
      refine h_iret rfl rfl (h_Kv ?_)
      refine h_pop (pc' := 1253) rfl rfl rfl ?_
      clear hr10
      refine h_aload_n (pc' := 1254) rfl rfl rfl ?_
      refine h_aload_n (pc' := 1255) rfl rfl rfl ?_
      refine h_iload_n (pc' := 1256) rfl rfl rfl ?_
      refine h_iconst (pc' := 1257) (x := (Int32.ofInt 1)) rfl rfl rfl ?_
      refine h_iadd (pc' := 1258) rfl rfl hy3 ci_1 rfl (by omega) (by omega) (fun z12 hz12 => ?_)
      refine h_iald (pc' := 1259) (v := s0 0 (b3 + 1)) rfl rfl rfl hz12 (by omega) (by omega) (Zs11 _) (fun z13 hz13 => ?_)
      have tz13 := h_rgv hz13
      clear hz12
      refine h_call (sp := false) (pc' := 1262) (M := [(0, .ref 98), (1, .int z13)]) rfl rfl rfl rfl rfl rfl rfl rfl ?_
      refine h_iload_n (pc' := 1) rfl rfl rfl ?_
      refine h_i2l (pc' := 2) rfl rfl hz13 (fun z14 hz14 => ?_)
      refine h_lconst (pc' := 3) (x := (Int64.ofInt 0)) rfl rfl rfl ?_
      refine h_lconst (pc' := 4) (x := (Int64.ofInt 1)) rfl rfl rfl ?_
      refine h_calls (pc' := 7) (M := [(0, .long z14), (2, .long (Int64.ofInt 0)), (4, .long (Int64.ofInt 1))]) rfl rfl rfl rfl rfl rfl ?_
      refine h_lload_n (pc' := 1) rfl rfl rfl ?_
      refine h_lload_n (pc' := 2) rfl rfl rfl ?_
      refine h_lcmp (pc' := 3) rfl rfl hz14 cl_0 (fun z15 hz15 => ?_)
      refine h_zlt (tg := 17) (pc' := 6) rfl rfl rfl rfl (fun c16 => absurd c16 (by omega)) (fun c16 => ?_)
      replace c16 := (h_lcr hz15).2.1 c16
      clear hz15
      refine h_lload_n (pc' := 7) rfl rfl rfl ?_
      refine h_lload (pc' := 9) rfl rfl rfl ?_
      refine h_lcmp (pc' := 10) rfl rfl hz14 cl_1 (fun z17 hz17 => ?_)
      refine h_zgt (tg := 17) (pc' := 13) rfl rfl rfl rfl (fun c18 => absurd c18 (by omega)) (fun c18 => ?_)
      replace c18 := (h_lcr hz17).2.2.1 c18
      clear hz17
      refine h_iconst (pc' := 14) (x := (Int32.ofInt 1)) rfl rfl rfl ?_
      refine h_goto (pc' := 18) rfl rfl ?_
      refine h_zret rfl rfl ci_1 (by omega) (h_Kv ?_)
      clear hz14
      refine h_zne (tg := 12) (pc' := 10) rfl rfl rfl ci_1 (fun c19 => ?_) (fun c19 => absurd c19 (by omega))
      refine h_aload_n (pc' := 13) rfl rfl rfl ?_
      refine h_getR (pc' := 16) rfl rfl rfl rfl rfl ?_
      refine h_iload_n (pc' := 17) rfl rfl rfl ?_
      have qz13 : z13 = (Int32.ofInt 0) := h_lit (show z13.toInt = 0 by omega) ci_0
      subst qz13
      refine h_bald (pc' := 18) (v := s0 110 0) rfl rfl rfl ci_0 (by omega) (by omega) es11_11 (fun z20 hz20 => ?_)
      have tz20 := ty_110 I0 0
      clear hz13
      refine h_zne (tg := 24) (pc' := 21) rfl rfl rfl hz20 (fun c21 => ?_) (fun c21 => absurd c21 (by omega))
      clear hz20
      refine h_aload_n (pc' := 25) rfl rfl rfl ?_
      refine h_bipush (pc' := 27) (x := (Int32.ofInt 44)) rfl rfl cb_44 ?_
      refine h_iload_n (pc' := 28) rfl rfl rfl ?_
      refine h_iconst (pc' := 29) (x := (Int32.ofInt 1)) rfl rfl rfl ?_
      refine h_iadd (pc' := 30) (c := 1) rfl rfl ci_0 ci_1 rfl (by omega) (by omega) (fun z22 hz22 => ?_)
      refine h_imul (pc' := 31) (c := 44) rfl rfl ci_44 hz22 rfl (by omega) (by omega) (fun z23 hz23 => ?_)
      clear hz22
      refine h_iconst (pc' := 32) (x := (Int32.ofInt 0)) rfl rfl rfl ?_
      have qz23 : z23 = (Int32.ofInt 44) := h_lit hz23 ci_44
      subst qz23
      refine h_call (sp := false) (pc' := 35) (M := [(0, .ref 98), (1, .int (Int32.ofInt 44)), (2, .int (Int32.ofInt 0))]) rfl rfl rfl rfl rfl rfl rfl rfl ?_
      refine n_copies_44_0 _ Is11   (fun s25 Is25 Gs25 ps25_0 => h_Kn ?_)
      have Zs25 : ∀ i, s25 0 i = s0 0 i := fun i => (Gs25 0 i rfl).trans (Zs11 i)
      have Fs25 : h_F (fun _ _ => true) s25 s0 := fun _ _ h => by cases h
      have es25_0 : s25 64 1 = s0 64 1 := (Gs25 64 1 rfl).trans es11_0
      have es25_1 : s25 98 11 = s0 98 11 := (Gs25 98 11 rfl).trans es11_1
      have es25_2 : s25 64 4 = s0 64 4 := (Gs25 64 4 rfl).trans es11_2
      have es25_3 : s25 98 16 = s0 98 16 := (Gs25 98 16 rfl).trans es11_3
      have es25_4 : s25 90 2 = s0 90 2 := (Gs25 90 2 rfl).trans es11_4
      have es25_5 : s25 98 29 = s0 98 29 := (Gs25 98 29 rfl).trans es11_5
      have es25_6 : s25 10 8 = s9 10 8 := (Gs25 10 8 rfl).trans es11_6
      have es25_7 : s25 98 1 = s0 98 1 := (Gs25 98 1 rfl).trans es11_7
      have es25_8 : s25 10 9 = s9 10 9 := (Gs25 10 9 rfl).trans es11_8
      have es25_9 : s25 98 2 = s0 98 2 := (Gs25 98 2 rfl).trans es11_9
      have es25_10 : s25 62 0 = s0 62 0 := (Gs25 62 0 rfl).trans es11_10
      have es25_11 : s25 110 0 = s0 110 0 := (Gs25 110 0 rfl).trans es11_11
      have es25_12 : s25 62 1 = s0 62 1 := (Gs25 62 1 rfl).trans es11_12
      have es25_13 : s25 110 1 = s0 110 1 := (Gs25 110 1 rfl).trans es11_13
      clear hz23
      refine h_aload_n (pc' := 36) rfl rfl rfl ?_
      refine h_call (sp := false) (pc' := 39) (M := [(0, .ref 98)]) rfl rfl rfl rfl rfl rfl rfl rfl ?_
      refine w_159_98 _ Is25  (fun r26 br26 hr26 s27 Is27 Gs27 => h_Kv ?_)
      have Zs27 : ∀ i, s27 0 i = s0 0 i := fun i => (Gs27 0 i rfl).trans (Zs25 i)
      have Fs27 : h_F (fun _ _ => true) s27 s0 := fun _ _ h => by cases h
      have es27_0 : s27 64 1 = s0 64 1 := (Gs27 64 1 rfl).trans es25_0
      have es27_1 : s27 98 11 = s0 98 11 := (Gs27 98 11 rfl).trans es25_1
      have es27_2 : s27 64 4 = s0 64 4 := (Gs27 64 4 rfl).trans es25_2
      have es27_3 : s27 98 16 = s0 98 16 := (Gs27 98 16 rfl).trans es25_3
      have es27_4 : s27 90 2 = s0 90 2 := (Gs27 90 2 rfl).trans es25_4
      have es27_5 : s27 98 29 = s0 98 29 := (Gs27 98 29 rfl).trans es25_5
      have es27_6 : s27 10 8 = s9 10 8 := (Gs27 10 8 rfl).trans es25_6
      have es27_7 : s27 98 1 = s0 98 1 := (Gs27 98 1 rfl).trans es25_7
      have es27_8 : s27 10 9 = s9 10 9 := (Gs27 10 9 rfl).trans es25_8
      have es27_9 : s27 98 2 = s0 98 2 := (Gs27 98 2 rfl).trans es25_9
      have es27_10 : s27 62 0 = s0 62 0 := (Gs27 62 0 rfl).trans es25_10
      have es27_11 : s27 110 0 = s0 110 0 := (Gs27 110 0 rfl).trans es25_11
      have es27_12 : s27 62 1 = s0 62 1 := (Gs27 62 1 rfl).trans es25_12
      have es27_13 : s27 110 1 = s0 110 1 := (Gs27 110 1 rfl).trans es25_13
      refine h_iret rfl rfl (h_Kv ?_)
      refine h_pop (pc' := 1263) rfl rfl rfl ?_
      clear hr26
      refine h_goto (pc' := 1441) rfl rfl ?_
      exact kk _ Is27 (by first | exact d_tape.le j0 (Int.le_antisymm (by omega) (by omega)) (by omega) (fun j => (Gs27 65 j rfl).trans ((Gs25 65 j rfl).trans ((Gs11 65 j rfl).trans ((Gs9 65 j rfl))))) (fun j => (Gs27 102 j rfl).trans ((Gs25 102 j rfl).trans ((Gs11 102 j rfl).trans ((Gs9 102 j rfl))))) | (exfalso; omega)) (Int.le_antisymm (by omega) (by omega)) (c_R.back0 j2 I0 (by omega) (Int.le_antisymm (by omega) (by omega)) (Int.le_antisymm (by omega) (by omega)) (((c_eq.fr (fl := true) Gs27 rfl).tr ((c_eq.fr (fl := true) Gs25 rfl).tr (c_eq.fr (fl := true) Gs11 rfl))).tr (ps9_0.wk.tr c_eq.rf)) ((c_eq.fr (fl := true) Gs27 rfl).tr ((c_eq.fr (fl := true) Gs25 rfl).tr ((c_eq.fr (fl := true) Gs11 rfl).tr (c_eq.fr (fl := true) Gs9 rfl)))) ((c_eq.fr (fl := true) Gs27 rfl).tr ((c_eq.fr (fl := true) Gs25 rfl).tr ((c_eq.fr (fl := true) Gs11 rfl).tr (c_eq.fr (fl := true) Gs9 rfl)))) (fun j a b => (((Gs27.no (q := 99) (l := 0) (u := 43) (j := 0 + j) rfl (by omega) (by omega))).trans (ps25_0 j a b)).trans ((Gs11.no (q := 99) (l := 44) (u := 87) (j := 44 + j) rfl (by omega) (by omega)).trans ((Gs9.no (q := 99) (l := 44) (u := 87) (j := 44 + j) rfl (by omega) (by omega))))) ((((c_pg.fr (fl := true) (o := 44) Gs9 rfl).tr (c_pg.fr (fl := true) (o := 44) Gs11 rfl)).tr (c_pg.fr (fl := true) (o := 44) Gs25 rfl)).tr (c_pg.fr (fl := true) (o := 44) Gs27 rfl)) ((((c_pg.fr (fl := true) (o := 88) Gs9 rfl).tr (c_pg.fr (fl := true) (o := 88) Gs11 rfl)).tr (c_pg.fr (fl := true) (o := 88) Gs25 rfl)).tr (c_pg.fr (fl := true) (o := 88) Gs27 rfl)) (Int.le_antisymm (by omega) (by omega)) (Int.le_antisymm (by omega) (by omega)) (Int.le_antisymm (by omega) (by omega)) (Int.le_antisymm (by omega) (by omega))) (g_ti.e j3 ((funext (fun j => Gs27 100 j rfl)).trans ((funext (fun j => Gs25 100 j rfl)).trans ((funext (fun j => Gs11 100 j rfl)).trans (funext (fun j => Gs9 100 j rfl)))))) (g_SH.e j4 ((funext (fun j => Gs27 94 j rfl)).trans ((funext (fun j => Gs25 94 j rfl)).trans ((funext (fun j => Gs11 94 j rfl)).trans (funext (fun j => Gs9 94 j rfl))))) ((funext (fun j => Gs27 95 j rfl)).trans ((funext (fun j => Gs25 95 j rfl)).trans ((funext (fun j => Gs11 95 j rfl)).trans (funext (fun j => Gs9 95 j rfl))))) ((funext (fun j => Gs27 96 j rfl)).trans ((funext (fun j => Gs25 96 j rfl)).trans ((funext (fun j => Gs11 96 j rfl)).trans (funext (fun j => Gs9 96 j rfl))))) ((funext (fun j => Gs27 111 j rfl)).trans ((funext (fun j => Gs25 111 j rfl)).trans ((funext (fun j => Gs11 111 j rfl)).trans (funext (fun j => Gs9 111 j rfl))))) ((funext (fun j => Gs27 112 j rfl)).trans ((funext (fun j => Gs25 112 j rfl)).trans ((funext (fun j => Gs11 112 j rfl)).trans (funext (fun j => Gs9 112 j rfl))))) ((funext (fun j => Gs27 113 j rfl)).trans ((funext (fun j => Gs25 113 j rfl)).trans ((funext (fun j => Gs11 113 j rfl)).trans (funext (fun j => Gs9 113 j rfl)))))) (Int.le_antisymm (by omega) (by omega))
    · clear hz5
      refine h_bipush (pc' := 20) (x := (Int32.ofInt (-2))) rfl rfl cb_m2 ?_
      refine h_iret rfl rfl (h_Kv ?_)
      refine h_pop (pc' := 1253) rfl rfl rfl ?_
      refine h_aload_n (pc' := 1254) rfl rfl rfl ?_
      refine h_aload_n (pc' := 1255) rfl rfl rfl ?_
      refine h_iload_n (pc' := 1256) rfl rfl rfl ?_
      refine h_iconst (pc' := 1257) (x := (Int32.ofInt 1)) rfl rfl rfl ?_
      refine h_iadd (pc' := 1258) rfl rfl hy3 ci_1 rfl (by omega) (by omega) (fun z28 hz28 => ?_)
      refine h_iald (pc' := 1259) (v := s0 0 (b3 + 1)) rfl rfl rfl hz28 (by omega) (by omega) rfl (fun z29 hz29 => ?_)
      have tz29 := h_rgv hz29
      clear hz28
      refine h_call (sp := false) (pc' := 1262) (M := [(0, .ref 98), (1, .int z29)]) rfl rfl rfl rfl rfl rfl rfl rfl ?_
      refine h_iload_n (pc' := 1) rfl rfl rfl ?_
      refine h_i2l (pc' := 2) rfl rfl hz29 (fun z30 hz30 => ?_)
      refine h_lconst (pc' := 3) (x := (Int64.ofInt 0)) rfl rfl rfl ?_
      refine h_lconst (pc' := 4) (x := (Int64.ofInt 1)) rfl rfl rfl ?_
      refine h_calls (pc' := 7) (M := [(0, .long z30), (2, .long (Int64.ofInt 0)), (4, .long (Int64.ofInt 1))]) rfl rfl rfl rfl rfl rfl ?_
      refine h_lload_n (pc' := 1) rfl rfl rfl ?_
      refine h_lload_n (pc' := 2) rfl rfl rfl ?_
      refine h_lcmp (pc' := 3) rfl rfl hz30 cl_0 (fun z31 hz31 => ?_)
      refine h_zlt (tg := 17) (pc' := 6) rfl rfl rfl rfl (fun c32 => absurd c32 (by omega)) (fun c32 => ?_)
      replace c32 := (h_lcr hz31).2.1 c32
      clear hz31
      refine h_lload_n (pc' := 7) rfl rfl rfl ?_
      refine h_lload (pc' := 9) rfl rfl rfl ?_
      refine h_lcmp (pc' := 10) rfl rfl hz30 cl_1 (fun z33 hz33 => ?_)
      refine h_zgt (tg := 17) (pc' := 13) rfl rfl rfl rfl (fun c34 => absurd c34 (by omega)) (fun c34 => ?_)
      replace c34 := (h_lcr hz33).2.2.1 c34
      clear hz33
      refine h_iconst (pc' := 14) (x := (Int32.ofInt 1)) rfl rfl rfl ?_
      refine h_goto (pc' := 18) rfl rfl ?_
      refine h_zret rfl rfl ci_1 (by omega) (h_Kv ?_)
      clear hz30
      refine h_zne (tg := 12) (pc' := 10) rfl rfl rfl ci_1 (fun c35 => ?_) (fun c35 => absurd c35 (by omega))
      refine h_aload_n (pc' := 13) rfl rfl rfl ?_
      refine h_getR (pc' := 16) rfl rfl rfl rfl rfl ?_
      refine h_iload_n (pc' := 17) rfl rfl rfl ?_
      have qz29 : z29 = (Int32.ofInt 0) := h_lit (show z29.toInt = 0 by omega) ci_0
      subst qz29
      refine h_bald (pc' := 18) (v := s0 110 0) rfl rfl rfl ci_0 (by omega) (by omega) rfl (fun z36 hz36 => ?_)
      have tz36 := ty_110 I0 0
      clear hz29
      refine h_zne (tg := 24) (pc' := 21) rfl rfl rfl hz36 (fun c37 => absurd (Int.le_antisymm (by omega) (by omega)) c37) (fun c37 => ?_)
      clear hz36
      refine h_bipush (pc' := 23) (x := (Int32.ofInt (-2))) rfl rfl cb_m2 ?_
      refine h_iret rfl rfl (h_Kv ?_)
      refine h_pop (pc' := 1263) rfl rfl rfl ?_
      refine h_goto (pc' := 1441) rfl rfl ?_
      exact kk _ I0 (by first | exact d_tape.le j0 (Int.le_antisymm (by omega) (by omega)) (by omega) (fun j => rfl) (fun j => rfl) | (exfalso; omega)) (Int.le_antisymm (by omega) (by omega)) j2 (g_ti.e j3 rfl) (g_SH.e j4 rfl rfl rfl rfl rfl rfl) (Int.le_antisymm (by omega) (by omega))
  · refine h_iload_n (pc' := 5) rfl rfl rfl ?_
    refine h_iconst (pc' := 6) (x := (Int32.ofInt 1)) rfl rfl rfl ?_
    refine h_cne (tg := 13) (pc' := 9) rfl rfl rfl hz2 ci_1 (fun c38 => ?_) (fun c38 => ?_)
    · refine h_iconst (pc' := 14) (x := (Int32.ofInt 0)) rfl rfl rfl ?_
      refine h_zret rfl rfl ci_0 (by omega) (h_Kv ?_)
      refine h_zne (tg := 9) (pc' := 7) rfl rfl rfl ci_0 (fun c39 => absurd (Int.le_antisymm (by omega) (by omega)) c39) (fun c39 => ?_)
      refine h_iconst (pc' := 8) (x := (Int32.ofInt (-1))) rfl rfl rfl ?_
      refine h_iret rfl rfl (h_Kv ?_)
      clear hz2
      refine h_pop (pc' := 1253) rfl rfl rfl ?_
      refine h_aload_n (pc' := 1254) rfl rfl rfl ?_
      refine h_aload_n (pc' := 1255) rfl rfl rfl ?_
      refine h_iload_n (pc' := 1256) rfl rfl rfl ?_
      refine h_iconst (pc' := 1257) (x := (Int32.ofInt 1)) rfl rfl rfl ?_
      refine h_iadd (pc' := 1258) rfl rfl hy3 ci_1 rfl (by omega) (by omega) (fun z40 hz40 => ?_)
      refine h_iald (pc' := 1259) (v := s0 0 (b3 + 1)) rfl rfl rfl hz40 (by omega) (by omega) rfl (fun z41 hz41 => ?_)
      have tz41 := h_rgv hz41
      clear hz40
      refine h_call (sp := false) (pc' := 1262) (M := [(0, .ref 98), (1, .int z41)]) rfl rfl rfl rfl rfl rfl rfl rfl ?_
      refine h_iload_n (pc' := 1) rfl rfl rfl ?_
      refine h_i2l (pc' := 2) rfl rfl hz41 (fun z42 hz42 => ?_)
      refine h_lconst (pc' := 3) (x := (Int64.ofInt 0)) rfl rfl rfl ?_
      refine h_lconst (pc' := 4) (x := (Int64.ofInt 1)) rfl rfl rfl ?_
      refine h_calls (pc' := 7) (M := [(0, .long z42), (2, .long (Int64.ofInt 0)), (4, .long (Int64.ofInt 1))]) rfl rfl rfl rfl rfl rfl ?_
      refine h_lload_n (pc' := 1) rfl rfl rfl ?_
      refine h_lload_n (pc' := 2) rfl rfl rfl ?_
      refine h_lcmp (pc' := 3) rfl rfl hz42 cl_0 (fun z43 hz43 => ?_)
      refine h_zlt (tg := 17) (pc' := 6) rfl rfl rfl rfl (fun c44 => ?_) (fun c44 => ?_)
      · replace c44 := (h_lcr hz43).1 c44
        clear hz43
        refine h_iconst (pc' := 18) (x := (Int32.ofInt 0)) rfl rfl rfl ?_
        refine h_zret rfl rfl ci_0 (by omega) (h_Kv ?_)
        clear hz42
        refine h_zne (tg := 12) (pc' := 10) rfl rfl rfl ci_0 (fun c45 => absurd (Int.le_antisymm (by omega) (by omega)) c45) (fun c45 => ?_)
        refine h_iconst (pc' := 11) (x := (Int32.ofInt (-1))) rfl rfl rfl ?_
        refine h_iret rfl rfl (h_Kv ?_)
        clear hz41
        refine h_pop (pc' := 1263) rfl rfl rfl ?_
        refine h_goto (pc' := 1441) rfl rfl ?_
        exact kk _ I0 (by first | exact d_tape.le j0 (Int.le_antisymm (by omega) (by omega)) (by omega) (fun j => rfl) (fun j => rfl) | (exfalso; omega)) (Int.le_antisymm (by omega) (by omega)) j2 (g_ti.e j3 rfl) (g_SH.e j4 rfl rfl rfl rfl rfl rfl) (Int.le_antisymm (by omega) (by omega))
      · replace c44 := (h_lcr hz43).2.1 c44
        clear hz43
        refine h_lload_n (pc' := 7) rfl rfl rfl ?_
        refine h_lload (pc' := 9) rfl rfl rfl ?_
        refine h_lcmp (pc' := 10) rfl rfl hz42 cl_1 (fun z46 hz46 => ?_)
        refine h_zgt (tg := 17) (pc' := 13) rfl rfl rfl rfl (fun c47 => ?_) (fun c47 => absurd c47 (by omega))
        replace c47 := (h_lcr hz46).2.2.2.1 c47
        clear hz46
        refine h_iconst (pc' := 18) (x := (Int32.ofInt 0)) rfl rfl rfl ?_
        refine h_zret rfl rfl ci_0 (by omega) (h_Kv ?_)
        clear hz42
        refine h_zne (tg := 12) (pc' := 10) rfl rfl rfl ci_0 (fun c48 => absurd (Int.le_antisymm (by omega) (by omega)) c48) (fun c48 => ?_)
        refine h_iconst (pc' := 11) (x := (Int32.ofInt (-1))) rfl rfl rfl ?_
        refine h_iret rfl rfl (h_Kv ?_)
        clear hz41
        refine h_pop (pc' := 1263) rfl rfl rfl ?_
        refine h_goto (pc' := 1441) rfl rfl ?_
        exact kk _ I0 (by first | exact d_tape.le j0 (Int.le_antisymm (by omega) (by omega)) (by omega) (fun j => rfl) (fun j => rfl) | (exfalso; omega)) (Int.le_antisymm (by omega) (by omega)) j2 (g_ti.e j3 rfl) (g_SH.e j4 rfl rfl rfl rfl rfl rfl) (Int.le_antisymm (by omega) (by omega))
    · refine h_iconst (pc' := 10) (x := (Int32.ofInt 1)) rfl rfl rfl ?_
      refine h_goto (pc' := 14) rfl rfl ?_
      refine h_zret rfl rfl ci_1 (by omega) (h_Kv ?_)
      refine h_zne (tg := 9) (pc' := 7) rfl rfl rfl ci_1 (fun c49 => ?_) (fun c49 => absurd c49 (by omega))
      refine h_aload_n (pc' := 10) rfl rfl rfl ?_
      refine h_getR (pc' := 13) rfl rfl rfl rfl rfl ?_
      refine h_iload_n (pc' := 14) rfl rfl rfl ?_
      have qz2 : z2 = (Int32.ofInt 1) := h_lit (show z2.toInt = 1 by omega) ci_1
      subst qz2
      refine h_bald (pc' := 15) (v := s0 62 1) rfl rfl rfl ci_1 (by omega) (by omega) rfl (fun z50 hz50 => ?_)
      have tz50 := ty_62 I0 1
      clear hz2
      refine h_zne (tg := 21) (pc' := 18) rfl rfl rfl hz50 (fun c51 => ?_) (fun c51 => ?_)
      · clear hz50
        refine h_aload_n (pc' := 22) rfl rfl rfl ?_
        refine h_getR (pc' := 25) rfl rfl rfl rfl rfl ?_
        refine h_aload_n (pc' := 26) rfl rfl rfl ?_
        refine h_iload_n (pc' := 27) rfl rfl rfl ?_
        refine h_call (sp := false) (pc' := 30) (M := [(0, .ref 9), (1, .int (Int32.ofInt 1))]) rfl rfl rfl rfl rfl rfl rfl rfl ?_
        refine h_iload_n (pc' := 1) rfl rfl rfl ?_
        refine h_zne (tg := 11) (pc' := 4) rfl rfl rfl ci_1 (fun c52 => ?_) (fun c52 => absurd c52 (by omega))
        refine h_aload_n (pc' := 12) rfl rfl rfl ?_
        refine h_getR (pc' := 15) rfl rfl rfl rfl rfl ?_
        refine h_aret rfl rfl (h_Kv ?_)
        refine h_call (sp := false) (pc' := 33) (M := [(0, .ref 10), (1, .ref 49)]) rfl rfl rfl rfl rfl rfl rfl rfl ?_
        refine n_copy_10_49 _ I0  (fun s54 Is54 Gs54 ps54_0 => h_Kn ?_)
        have Zs54 : ∀ i, s54 0 i = s0 0 i := fun i => (Gs54 0 i rfl).trans rfl
        have Fs54 : h_F (fun _ _ => true) s54 s0 := fun _ _ h => by cases h
        have es54_0 : s54 64 1 = s0 64 1 := (Gs54 64 1 rfl).trans rfl
        have es54_1 : s54 98 11 = s0 98 11 := (Gs54 98 11 rfl).trans rfl
        have es54_2 : s54 64 4 = s0 64 4 := (Gs54 64 4 rfl).trans rfl
        have es54_3 : s54 98 16 = s0 98 16 := (Gs54 98 16 rfl).trans rfl
        have es54_4 : s54 90 2 = s0 90 2 := (Gs54 90 2 rfl).trans rfl
        have es54_5 : s54 98 29 = s0 98 29 := (Gs54 98 29 rfl).trans rfl
        have es54_7 : s54 98 1 = s0 98 1 := (Gs54 98 1 rfl).trans rfl
        have es54_9 : s54 98 2 = s0 98 2 := (Gs54 98 2 rfl).trans rfl
        have es54_10 : s54 62 0 = s0 62 0 := (Gs54 62 0 rfl).trans rfl
        have es54_11 : s54 110 0 = s0 110 0 := (Gs54 110 0 rfl).trans rfl
        have es54_12 : s54 62 1 = s0 62 1 := (Gs54 62 1 rfl).trans rfl
        have es54_13 : s54 110 1 = s0 110 1 := (Gs54 110 1 rfl).trans rfl
        refine h_aload_n (pc' := 34) rfl rfl rfl ?_
        refine h_getR (pc' := 37) rfl rfl rfl rfl rfl ?_
        refine h_call (sp := false) (pc' := 40) (M := [(0, .ref 10)]) rfl rfl rfl rfl rfl rfl rfl rfl ?_
        refine w_11_10 _ Is54  (fun r55 br55 hr55 s56 Is56 Gs56 => h_Kv ?_)
        have Zs56 : ∀ i, s56 0 i = s0 0 i := fun i => (Gs56 0 i rfl).trans (Zs54 i)
        have Fs56 : h_F (fun _ _ => true) s56 s0 := fun _ _ h => by cases h
        have es56_0 : s56 64 1 = s0 64 1 := (Gs56 64 1 rfl).trans es54_0
        have es56_1 : s56 98 11 = s0 98 11 := (Gs56 98 11 rfl).trans es54_1
        have es56_2 : s56 64 4 = s0 64 4 := (Gs56 64 4 rfl).trans es54_2
        have es56_3 : s56 98 16 = s0 98 16 := (Gs56 98 16 rfl).trans es54_3
        have es56_4 : s56 90 2 = s0 90 2 := (Gs56 90 2 rfl).trans es54_4
        have es56_5 : s56 98 29 = s0 98 29 := (Gs56 98 29 rfl).trans es54_5
        have es56_6 : s56 10 8 = s54 10 8 := (Gs56 10 8 rfl).trans rfl
        have es56_7 : s56 98 1 = s0 98 1 := (Gs56 98 1 rfl).trans es54_7
        have es56_8 : s56 10 9 = s54 10 9 := (Gs56 10 9 rfl).trans rfl
        have es56_9 : s56 98 2 = s0 98 2 := (Gs56 98 2 rfl).trans es54_9
        have es56_10 : s56 62 0 = s0 62 0 := (Gs56 62 0 rfl).trans es54_10
        have es56_11 : s56 110 0 = s0 110 0 := (Gs56 110 0 rfl).trans es54_11
        have es56_12 : s56 62 1 = s0 62 1 := (Gs56 62 1 rfl).trans es54_12
        have es56_13 : s56 110 1 = s0 110 1 := (Gs56 110 1 rfl).trans es54_13
        refine h_iret rfl rfl (h_Kv ?_)
        refine h_pop (pc' := 1253) rfl rfl rfl ?_
        clear hr55
        refine h_aload_n (pc' := 1254) rfl rfl rfl ?_
        refine h_aload_n (pc' := 1255) rfl rfl rfl ?_
        refine h_iload_n (pc' := 1256) rfl rfl rfl ?_
        refine h_iconst (pc' := 1257) (x := (Int32.ofInt 1)) rfl rfl rfl ?_
        refine h_iadd (pc' := 1258) rfl rfl hy3 ci_1 rfl (by omega) (by omega) (fun z57 hz57 => ?_)
        refine h_iald (pc' := 1259) (v := s0 0 (b3 + 1)) rfl rfl rfl hz57 (by omega) (by omega) (Zs56 _) (fun z58 hz58 => ?_)
        have tz58 := h_rgv hz58
        clear hz57
        refine h_call (sp := false) (pc' := 1262) (M := [(0, .ref 98), (1, .int z58)]) rfl rfl rfl rfl rfl rfl rfl rfl ?_
        refine h_iload_n (pc' := 1) rfl rfl rfl ?_
        refine h_i2l (pc' := 2) rfl rfl hz58 (fun z59 hz59 => ?_)
        refine h_lconst (pc' := 3) (x := (Int64.ofInt 0)) rfl rfl rfl ?_
        refine h_lconst (pc' := 4) (x := (Int64.ofInt 1)) rfl rfl rfl ?_
        refine h_calls (pc' := 7) (M := [(0, .long z59), (2, .long (Int64.ofInt 0)), (4, .long (Int64.ofInt 1))]) rfl rfl rfl rfl rfl rfl ?_
        refine h_lload_n (pc' := 1) rfl rfl rfl ?_
        refine h_lload_n (pc' := 2) rfl rfl rfl ?_
        refine h_lcmp (pc' := 3) rfl rfl hz59 cl_0 (fun z60 hz60 => ?_)
        refine h_zlt (tg := 17) (pc' := 6) rfl rfl rfl rfl (fun c61 => absurd c61 (by omega)) (fun c61 => ?_)
        replace c61 := (h_lcr hz60).2.1 c61
        clear hz60
        refine h_lload_n (pc' := 7) rfl rfl rfl ?_
        refine h_lload (pc' := 9) rfl rfl rfl ?_
        refine h_lcmp (pc' := 10) rfl rfl hz59 cl_1 (fun z62 hz62 => ?_)
        refine h_zgt (tg := 17) (pc' := 13) rfl rfl rfl rfl (fun c63 => absurd c63 (by omega)) (fun c63 => ?_)
        replace c63 := (h_lcr hz62).2.2.1 c63
        clear hz62
        refine h_iconst (pc' := 14) (x := (Int32.ofInt 1)) rfl rfl rfl ?_
        refine h_goto (pc' := 18) rfl rfl ?_
        refine h_zret rfl rfl ci_1 (by omega) (h_Kv ?_)
        clear hz59
        refine h_zne (tg := 12) (pc' := 10) rfl rfl rfl ci_1 (fun c64 => ?_) (fun c64 => absurd c64 (by omega))
        refine h_aload_n (pc' := 13) rfl rfl rfl ?_
        refine h_getR (pc' := 16) rfl rfl rfl rfl rfl ?_
        refine h_iload_n (pc' := 17) rfl rfl rfl ?_
        have qz58 : z58 = (Int32.ofInt 1) := h_lit (show z58.toInt = 1 by omega) ci_1
        subst qz58
        refine h_bald (pc' := 18) (v := s0 110 1) rfl rfl rfl ci_1 (by omega) (by omega) es56_13 (fun z65 hz65 => ?_)
        have tz65 := ty_110 I0 1
        clear hz58
        refine h_zne (tg := 24) (pc' := 21) rfl rfl rfl hz65 (fun c66 => ?_) (fun c66 => absurd c66 (by omega))
        clear hz65
        refine h_aload_n (pc' := 25) rfl rfl rfl ?_
        refine h_bipush (pc' := 27) (x := (Int32.ofInt 44)) rfl rfl cb_44 ?_
        refine h_iload_n (pc' := 28) rfl rfl rfl ?_
        refine h_iconst (pc' := 29) (x := (Int32.ofInt 1)) rfl rfl rfl ?_
        refine h_iadd (pc' := 30) (c := 2) rfl rfl ci_1 ci_1 rfl (by omega) (by omega) (fun z67 hz67 => ?_)
        refine h_imul (pc' := 31) (c := 88) rfl rfl ci_44 hz67 rfl (by omega) (by omega) (fun z68 hz68 => ?_)
        clear hz67
        refine h_iconst (pc' := 32) (x := (Int32.ofInt 0)) rfl rfl rfl ?_
        have qz68 : z68 = (Int32.ofInt 88) := h_lit hz68 ci_88
        subst qz68
        refine h_call (sp := false) (pc' := 35) (M := [(0, .ref 98), (1, .int (Int32.ofInt 88)), (2, .int (Int32.ofInt 0))]) rfl rfl rfl rfl rfl rfl rfl rfl ?_
        refine n_copies_88_0 _ Is56   (fun s70 Is70 Gs70 ps70_0 => h_Kn ?_)
        have Zs70 : ∀ i, s70 0 i = s0 0 i := fun i => (Gs70 0 i rfl).trans (Zs56 i)
        have Fs70 : h_F (fun _ _ => true) s70 s0 := fun _ _ h => by cases h
        have es70_0 : s70 64 1 = s0 64 1 := (Gs70 64 1 rfl).trans es56_0
        have es70_1 : s70 98 11 = s0 98 11 := (Gs70 98 11 rfl).trans es56_1
        have es70_2 : s70 64 4 = s0 64 4 := (Gs70 64 4 rfl).trans es56_2
        have es70_3 : s70 98 16 = s0 98 16 := (Gs70 98 16 rfl).trans es56_3
        have es70_4 : s70 90 2 = s0 90 2 := (Gs70 90 2 rfl).trans es56_4
        have es70_5 : s70 98 29 = s0 98 29 := (Gs70 98 29 rfl).trans es56_5
        have es70_6 : s70 10 8 = s54 10 8 := (Gs70 10 8 rfl).trans es56_6
        have es70_7 : s70 98 1 = s0 98 1 := (Gs70 98 1 rfl).trans es56_7
        have es70_8 : s70 10 9 = s54 10 9 := (Gs70 10 9 rfl).trans es56_8
        have es70_9 : s70 98 2 = s0 98 2 := (Gs70 98 2 rfl).trans es56_9
        have es70_10 : s70 62 0 = s0 62 0 := (Gs70 62 0 rfl).trans es56_10
        have es70_11 : s70 110 0 = s0 110 0 := (Gs70 110 0 rfl).trans es56_11
        have es70_12 : s70 62 1 = s0 62 1 := (Gs70 62 1 rfl).trans es56_12
        have es70_13 : s70 110 1 = s0 110 1 := (Gs70 110 1 rfl).trans es56_13
        clear hz68
        refine h_aload_n (pc' := 36) rfl rfl rfl ?_
        refine h_call (sp := false) (pc' := 39) (M := [(0, .ref 98)]) rfl rfl rfl rfl rfl rfl rfl rfl ?_
        refine w_159_98 _ Is70  (fun r71 br71 hr71 s72 Is72 Gs72 => h_Kv ?_)
        have Zs72 : ∀ i, s72 0 i = s0 0 i := fun i => (Gs72 0 i rfl).trans (Zs70 i)
        have Fs72 : h_F (fun _ _ => true) s72 s0 := fun _ _ h => by cases h
        have es72_0 : s72 64 1 = s0 64 1 := (Gs72 64 1 rfl).trans es70_0
        have es72_1 : s72 98 11 = s0 98 11 := (Gs72 98 11 rfl).trans es70_1
        have es72_2 : s72 64 4 = s0 64 4 := (Gs72 64 4 rfl).trans es70_2
        have es72_3 : s72 98 16 = s0 98 16 := (Gs72 98 16 rfl).trans es70_3
        have es72_4 : s72 90 2 = s0 90 2 := (Gs72 90 2 rfl).trans es70_4
        have es72_5 : s72 98 29 = s0 98 29 := (Gs72 98 29 rfl).trans es70_5
        have es72_6 : s72 10 8 = s54 10 8 := (Gs72 10 8 rfl).trans es70_6
        have es72_7 : s72 98 1 = s0 98 1 := (Gs72 98 1 rfl).trans es70_7
        have es72_8 : s72 10 9 = s54 10 9 := (Gs72 10 9 rfl).trans es70_8
        have es72_9 : s72 98 2 = s0 98 2 := (Gs72 98 2 rfl).trans es70_9
        have es72_10 : s72 62 0 = s0 62 0 := (Gs72 62 0 rfl).trans es70_10
        have es72_11 : s72 110 0 = s0 110 0 := (Gs72 110 0 rfl).trans es70_11
        have es72_12 : s72 62 1 = s0 62 1 := (Gs72 62 1 rfl).trans es70_12
        have es72_13 : s72 110 1 = s0 110 1 := (Gs72 110 1 rfl).trans es70_13
        refine h_iret rfl rfl (h_Kv ?_)
        refine h_pop (pc' := 1263) rfl rfl rfl ?_
        clear hr71
        refine h_goto (pc' := 1441) rfl rfl ?_
        exact kk _ Is72 (by first | exact d_tape.le j0 (Int.le_antisymm (by omega) (by omega)) (by omega) (fun j => (Gs72 65 j rfl).trans ((Gs70 65 j rfl).trans ((Gs56 65 j rfl).trans ((Gs54 65 j rfl))))) (fun j => (Gs72 102 j rfl).trans ((Gs70 102 j rfl).trans ((Gs56 102 j rfl).trans ((Gs54 102 j rfl))))) | (exfalso; omega)) (Int.le_antisymm (by omega) (by omega)) (c_R.back1 j2 I0 (by omega) (Int.le_antisymm (by omega) (by omega)) (Int.le_antisymm (by omega) (by omega)) (((c_eq.fr (fl := true) Gs72 rfl).tr ((c_eq.fr (fl := true) Gs70 rfl).tr (c_eq.fr (fl := true) Gs56 rfl))).tr (ps54_0.wk.tr c_eq.rf)) ((c_eq.fr (fl := true) Gs72 rfl).tr ((c_eq.fr (fl := true) Gs70 rfl).tr ((c_eq.fr (fl := true) Gs56 rfl).tr (c_eq.fr (fl := true) Gs54 rfl)))) ((c_eq.fr (fl := true) Gs72 rfl).tr ((c_eq.fr (fl := true) Gs70 rfl).tr ((c_eq.fr (fl := true) Gs56 rfl).tr (c_eq.fr (fl := true) Gs54 rfl)))) (fun j a b => (((Gs72.no (q := 99) (l := 0) (u := 43) (j := 0 + j) rfl (by omega) (by omega))).trans (ps70_0 j a b)).trans ((Gs56.no (q := 99) (l := 88) (u := 131) (j := 88 + j) rfl (by omega) (by omega)).trans ((Gs54.no (q := 99) (l := 88) (u := 131) (j := 88 + j) rfl (by omega) (by omega))))) ((((c_pg.fr (fl := true) (o := 44) Gs54 rfl).tr (c_pg.fr (fl := true) (o := 44) Gs56 rfl)).tr (c_pg.fr (fl := true) (o := 44) Gs70 rfl)).tr (c_pg.fr (fl := true) (o := 44) Gs72 rfl)) ((((c_pg.fr (fl := true) (o := 88) Gs54 rfl).tr (c_pg.fr (fl := true) (o := 88) Gs56 rfl)).tr (c_pg.fr (fl := true) (o := 88) Gs70 rfl)).tr (c_pg.fr (fl := true) (o := 88) Gs72 rfl)) (Int.le_antisymm (by omega) (by omega)) (Int.le_antisymm (by omega) (by omega)) (Int.le_antisymm (by omega) (by omega)) (Int.le_antisymm (by omega) (by omega))) (g_ti.e j3 ((funext (fun j => Gs72 100 j rfl)).trans ((funext (fun j => Gs70 100 j rfl)).trans ((funext (fun j => Gs56 100 j rfl)).trans (funext (fun j => Gs54 100 j rfl)))))) (g_SH.e j4 ((funext (fun j => Gs72 94 j rfl)).trans ((funext (fun j => Gs70 94 j rfl)).trans ((funext (fun j => Gs56 94 j rfl)).trans (funext (fun j => Gs54 94 j rfl))))) ((funext (fun j => Gs72 95 j rfl)).trans ((funext (fun j => Gs70 95 j rfl)).trans ((funext (fun j => Gs56 95 j rfl)).trans (funext (fun j => Gs54 95 j rfl))))) ((funext (fun j => Gs72 96 j rfl)).trans ((funext (fun j => Gs70 96 j rfl)).trans ((funext (fun j => Gs56 96 j rfl)).trans (funext (fun j => Gs54 96 j rfl))))) ((funext (fun j => Gs72 111 j rfl)).trans ((funext (fun j => Gs70 111 j rfl)).trans ((funext (fun j => Gs56 111 j rfl)).trans (funext (fun j => Gs54 111 j rfl))))) ((funext (fun j => Gs72 112 j rfl)).trans ((funext (fun j => Gs70 112 j rfl)).trans ((funext (fun j => Gs56 112 j rfl)).trans (funext (fun j => Gs54 112 j rfl))))) ((funext (fun j => Gs72 113 j rfl)).trans ((funext (fun j => Gs70 113 j rfl)).trans ((funext (fun j => Gs56 113 j rfl)).trans (funext (fun j => Gs54 113 j rfl)))))) (Int.le_antisymm (by omega) (by omega))
      · clear hz50
        refine h_bipush (pc' := 20) (x := (Int32.ofInt (-2))) rfl rfl cb_m2 ?_
        refine h_iret rfl rfl (h_Kv ?_)
        refine h_pop (pc' := 1253) rfl rfl rfl ?_
        refine h_aload_n (pc' := 1254) rfl rfl rfl ?_
        refine h_aload_n (pc' := 1255) rfl rfl rfl ?_
        refine h_iload_n (pc' := 1256) rfl rfl rfl ?_
        refine h_iconst (pc' := 1257) (x := (Int32.ofInt 1)) rfl rfl rfl ?_
        refine h_iadd (pc' := 1258) rfl rfl hy3 ci_1 rfl (by omega) (by omega) (fun z73 hz73 => ?_)
        refine h_iald (pc' := 1259) (v := s0 0 (b3 + 1)) rfl rfl rfl hz73 (by omega) (by omega) rfl (fun z74 hz74 => ?_)
        have tz74 := h_rgv hz74
        clear hz73
        refine h_call (sp := false) (pc' := 1262) (M := [(0, .ref 98), (1, .int z74)]) rfl rfl rfl rfl rfl rfl rfl rfl ?_
        refine h_iload_n (pc' := 1) rfl rfl rfl ?_
        refine h_i2l (pc' := 2) rfl rfl hz74 (fun z75 hz75 => ?_)
        refine h_lconst (pc' := 3) (x := (Int64.ofInt 0)) rfl rfl rfl ?_
        refine h_lconst (pc' := 4) (x := (Int64.ofInt 1)) rfl rfl rfl ?_
        refine h_calls (pc' := 7) (M := [(0, .long z75), (2, .long (Int64.ofInt 0)), (4, .long (Int64.ofInt 1))]) rfl rfl rfl rfl rfl rfl ?_
        refine h_lload_n (pc' := 1) rfl rfl rfl ?_
        refine h_lload_n (pc' := 2) rfl rfl rfl ?_
        refine h_lcmp (pc' := 3) rfl rfl hz75 cl_0 (fun z76 hz76 => ?_)
        refine h_zlt (tg := 17) (pc' := 6) rfl rfl rfl rfl (fun c77 => absurd c77 (by omega)) (fun c77 => ?_)
        replace c77 := (h_lcr hz76).2.1 c77
        clear hz76
        refine h_lload_n (pc' := 7) rfl rfl rfl ?_
        refine h_lload (pc' := 9) rfl rfl rfl ?_
        refine h_lcmp (pc' := 10) rfl rfl hz75 cl_1 (fun z78 hz78 => ?_)
        refine h_zgt (tg := 17) (pc' := 13) rfl rfl rfl rfl (fun c79 => absurd c79 (by omega)) (fun c79 => ?_)
        replace c79 := (h_lcr hz78).2.2.1 c79
        clear hz78
        refine h_iconst (pc' := 14) (x := (Int32.ofInt 1)) rfl rfl rfl ?_
        refine h_goto (pc' := 18) rfl rfl ?_
        refine h_zret rfl rfl ci_1 (by omega) (h_Kv ?_)
        clear hz75
        refine h_zne (tg := 12) (pc' := 10) rfl rfl rfl ci_1 (fun c80 => ?_) (fun c80 => absurd c80 (by omega))
        refine h_aload_n (pc' := 13) rfl rfl rfl ?_
        refine h_getR (pc' := 16) rfl rfl rfl rfl rfl ?_
        refine h_iload_n (pc' := 17) rfl rfl rfl ?_
        have qz74 : z74 = (Int32.ofInt 1) := h_lit (show z74.toInt = 1 by omega) ci_1
        subst qz74
        refine h_bald (pc' := 18) (v := s0 110 1) rfl rfl rfl ci_1 (by omega) (by omega) rfl (fun z81 hz81 => ?_)
        have tz81 := ty_110 I0 1
        clear hz74
        refine h_zne (tg := 24) (pc' := 21) rfl rfl rfl hz81 (fun c82 => absurd (Int.le_antisymm (by omega) (by omega)) c82) (fun c82 => ?_)
        clear hz81
        refine h_bipush (pc' := 23) (x := (Int32.ofInt (-2))) rfl rfl cb_m2 ?_
        refine h_iret rfl rfl (h_Kv ?_)
        refine h_pop (pc' := 1263) rfl rfl rfl ?_
        refine h_goto (pc' := 1441) rfl rfl ?_
        exact kk _ I0 (by first | exact d_tape.le j0 (Int.le_antisymm (by omega) (by omega)) (by omega) (fun j => rfl) (fun j => rfl) | (exfalso; omega)) (Int.le_antisymm (by omega) (by omega)) j2 (g_ti.e j3 rfl) (g_SH.e j4 rfl rfl rfl rfl rfl rfl) (Int.le_antisymm (by omega) (by omega))
