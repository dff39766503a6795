set_option maxHeartbeats 100000000 in
theorem g_case_1220 {ns : Nat} (hns : ns ≤ 320) (s0 : h_S) (I0 : h_I s0) (j0 : d_tape s0 s0) (j1 : s0 64 4 = s0 98 16) (j2 : c_R true s0) (j3 : g_ti s0) (j4 : g_SH s0) (j5 : s0 90 2 = s0 98 29) (y3 : Int32) (b3 : Int) (hy3 : y3.toInt = b3) (hr : 0 ≤ b3 ∧ b3 + 5 ≤ ns) {Q : Option Value → h_S → Prop} (kk : ∀ τ, h_I τ → (d_tape τ τ) → (τ 64 4 = τ 98 16) → (c_R true τ) → (g_ti τ) → (g_SH τ) → (τ 90 2 = τ 98 29) → h_T g_P (g_Y ns) 225 1441 [(0, .ref 0), (1, .ref 9), (2, .ref 98), (3, .int y3)] [] τ Q) : h_T g_P (g_Y ns) 225 1220 [(0, .ref 0), (1, .ref 9), (2, .ref 98), (3, .int y3)] [] s0 Q := by
  have F0_ : h_F (fun _ _ => true) s0 s0 := h_F.rf
  have j0_ := j0.2
  have i0 := tf_64_1 I0
  have i1 := tf_98_11 I0
  have i2 := tf_64_4 I0
  have i3 := tf_98_16 I0
  have i4 := tf_90_2 I0
  have i5 := tf_98_29 I0
  have i6 := tf_10_8 I0
  have i7 := tf_98_1 I0
  have i8 := tf_10_9 I0
  have i9 := tf_98_2 I0
  have j2_ := j2.sz
  have j2i := j2.2.2.1
  have y62_0 := ty_62 I0 0
  have y62_1 := ty_62 I0 1
  have y110_0 := ty_110 I0 0
  have y110_1 := ty_110 I0 1
  refine h_aload_n (pc' := 1221) rfl rfl rfl ?_
  refine h_aload_n (pc' := 1222) rfl rfl rfl ?_
  refine h_iload_n (pc' := 1223) rfl rfl rfl ?_
  refine h_iconst (pc' := 1224) (x := (Int32.ofInt 1)) rfl rfl rfl ?_
  refine h_iadd (pc' := 1225) rfl rfl hy3 ci_1 rfl (by omega) (by omega) (fun z1 hz1 => ?_)
  refine h_iald (pc' := 1226) (v := s0 0 (b3 + 1)) rfl rfl rfl hz1 (by omega) (by omega) rfl (fun z2 hz2 => ?_)
  have tz2 := h_rgv hz2
  clear hz1
  refine h_call (sp := false) (pc' := 1229) (M := [(0, .ref 9), (1, .int z2)]) rfl rfl rfl rfl rfl rfl rfl rfl ?_
  refine h_iload_n (pc' := 1) rfl rfl rfl ?_
  refine h_calls (pc' := 4) (M := [(0, .int z2)]) rfl rfl rfl rfl rfl rfl ?_
  refine h_iload_n (pc' := 1) rfl rfl rfl ?_
  refine h_zeq (tg := 9) (pc' := 4) rfl rfl rfl hz2 (fun c3 => ?_) (fun c3 => ?_)
  · refine h_iconst (pc' := 10) (x := (Int32.ofInt 1)) rfl rfl rfl ?_
    refine h_goto (pc' := 14) rfl rfl ?_
    refine h_zret rfl rfl ci_1 (by omega) (h_Kv ?_)
    refine h_zne (tg := 9) (pc' := 7) rfl rfl rfl ci_1 (fun c4 => ?_) (fun c4 => absurd c4 (by omega))
    refine h_aload_n (pc' := 10) rfl rfl rfl ?_
    refine h_getR (pc' := 13) rfl rfl rfl rfl rfl ?_
    refine h_iload_n (pc' := 14) rfl rfl rfl ?_
    have qz2 : z2 = (Int32.ofInt 0) := h_lit (show z2.toInt = 0 by omega) ci_0
    subst qz2
    refine h_bald (pc' := 15) (v := s0 62 0) rfl rfl rfl ci_0 (by omega) (by omega) rfl (fun z5 hz5 => ?_)
    have tz5 := ty_62 I0 0
    clear hz2
    refine h_zeq (tg := 22) (pc' := 18) rfl rfl rfl hz5 (fun c6 => ?_) (fun c6 => ?_)
    · clear hz5
      refine h_iconst (pc' := 23) (x := (Int32.ofInt 0)) rfl rfl rfl ?_
      refine h_istore_n (pc' := 24) (M := [(2, .int (Int32.ofInt 0)), (0, .ref 9), (1, .int (Int32.ofInt 0))]) rfl rfl rfl rfl ?_
      refine h_aload_n (pc' := 25) rfl rfl rfl ?_
      refine h_iload_n (pc' := 26) rfl rfl rfl ?_
      refine h_call (sp := false) (pc' := 29) (M := [(0, .ref 9), (1, .int (Int32.ofInt 0))]) rfl rfl rfl rfl rfl rfl rfl rfl ?_
      refine h_iload_n (pc' := 1) rfl rfl rfl ?_
      refine h_zne (tg := 11) (pc' := 4) rfl rfl rfl ci_0 (fun c7 => absurd (Int.le_antisymm (by omega) (by omega)) c7) (fun c7 => ?_)
      refine h_aload_n (pc' := 5) rfl rfl rfl ?_
      refine h_getR (pc' := 8) rfl rfl rfl rfl rfl ?_
      refine h_goto (pc' := 15) rfl rfl ?_
      refine h_aret rfl rfl (h_Kv ?_)
      refine h_aload_n (pc' := 30) rfl rfl rfl ?_
      refine h_getR (pc' := 33) rfl rfl rfl rfl rfl ?_
      refine h_call (sp := false) (pc' := 36) (M := [(0, .ref 36), (1, .ref 10)]) rfl rfl rfl rfl rfl rfl rfl rfl ?_
      refine n_copy_36_10 _ I0  (fun s9 Is9 Gs9 ps9_0 => h_Kn ?_)
      have Zs9 : ∀ i, s9 0 i = s0 0 i := fun i => (Gs9 0 i rfl).trans rfl
      have Fs9 : h_F (fun _ _ => true) s9 s0 := fun _ _ h => by cases h
      have es9_0 : s9 64 1 = s0 64 1 := (Gs9 64 1 rfl).trans rfl
      have es9_1 : s9 98 11 = s0 98 11 := (Gs9 98 11 rfl).trans rfl
      have es9_2 : s9 64 4 = s0 64 4 := (Gs9 64 4 rfl).trans rfl
      have es9_3 : s9 98 16 = s0 98 16 := (Gs9 98 16 rfl).trans rfl
      have es9_4 : s9 90 2 = s0 90 2 := (Gs9 90 2 rfl).trans rfl
      have es9_5 : s9 98 29 = s0 98 29 := (Gs9 98 29 rfl).trans rfl
      have es9_6 : s9 10 8 = s0 10 8 := (Gs9 10 8 rfl).trans rfl
      have es9_7 : s9 98 1 = s0 98 1 := (Gs9 98 1 rfl).trans rfl
      have es9_8 : s9 10 9 = s0 10 9 := (Gs9 10 9 rfl).trans rfl
      have es9_9 : s9 98 2 = s0 98 2 := (Gs9 98 2 rfl).trans rfl
      have es9_10 : s9 62 0 = s0 62 0 := (Gs9 62 0 rfl).trans rfl
      have es9_11 : s9 110 0 = s0 110 0 := (Gs9 110 0 rfl).trans rfl
      have es9_12 : s9 62 1 = s0 62 1 := (Gs9 62 1 rfl).trans rfl
      have es9_13 : s9 110 1 = s0 110 1 := (Gs9 110 1 rfl).trans rfl
      refine h_aload_n (pc' := 37) rfl rfl rfl ?_
      refine h_getR (pc' := 40) rfl rfl rfl rfl rfl ?_
      refine h_iload_n (pc' := 41) rfl rfl rfl ?_
      refine h_iconst (pc' := 42) (x := (Int32.ofInt 1)) rfl rfl rfl ?_
      refine h_bast (pc' := 43) rfl rfl rfl rfl ci_0 (by omega) (by omega) ci_1 (by omega) (h_fgt (E := fun s => s 64 1 = s0 64 1 ∧ s 98 11 = s0 98 11 ∧ s 64 4 = s0 64 4 ∧ s 98 16 = s0 98 16 ∧ s 90 2 = s0 90 2 ∧ s 98 29 = s0 98 29 ∧ s 10 8 = s0 10 8 ∧ s 98 1 = s0 98 1 ∧ s 10 9 = s0 10 9 ∧ s 98 2 = s0 98 2 ∧ s 62 0 = 1 ∧ s 110 0 = s0 110 0 ∧ s 62 1 = s0 62 1 ∧ s 110 1 = s0 110 1 ∧ s = h_up s9 62 0 1) _ (in_62 Is9 (by omega)) (Fs9.up rfl) ⟨es9_0, es9_1, es9_2, es9_3, es9_4, es9_5, es9_6, es9_7, es9_8, es9_9, rfl, es9_11, es9_12, es9_13, rfl⟩ (fun s10 Is10 Fs10 (es10 : s10 64 1 = s0 64 1 ∧ s10 98 11 = s0 98 11 ∧ s10 64 4 = s0 64 4 ∧ s10 98 16 = s0 98 16 ∧ s10 90 2 = s0 90 2 ∧ s10 98 29 = s0 98 29 ∧ s10 10 8 = s0 10 8 ∧ s10 98 1 = s0 98 1 ∧ s10 10 9 = s0 10 9 ∧ s10 98 2 = s0 98 2 ∧ s10 62 0 = 1 ∧ s10 110 0 = s0 110 0 ∧ s10 62 1 = s0 62 1 ∧ s10 110 1 = s0 110 1 ∧ s10 = h_up s9 62 0 1) => ?_))
      have us10 := es10.2.2.2.2.2.2.2.2.2.2.2.2.2.2
      have Zs10 : ∀ i, s10 0 i = s0 0 i := fun i => (h_upo us10 rfl i).trans (Zs9 i)
      refine h_iload_n (pc' := 44) rfl rfl rfl ?_
      refine h_iret rfl rfl (h_Kv ?_)
      refine h_pop (pc' := 1230) rfl rfl rfl ?_
      refine h_aload_n (pc' := 1231) rfl rfl rfl ?_
      refine h_aload_n (pc' := 1232) rfl rfl rfl ?_
      refine h_iload_n (pc' := 1233) rfl rfl rfl ?_
      refine h_iconst (pc' := 1234) (x := (Int32.ofInt 1)) rfl rfl rfl ?_
      refine h_iadd (pc' := 1235) rfl rfl hy3 ci_1 rfl (by omega) (by omega) (fun z11 hz11 => ?_)
      refine h_iald (pc' := 1236) (v := s0 0 (b3 + 1)) rfl rfl rfl hz11 (by omega) (by omega) (Zs10 _) (fun z12 hz12 => ?_)
      have tz12 := h_rgv hz12
      clear hz11
      refine h_call (sp := false) (pc' := 1239) (M := [(0, .ref 98), (1, .int z12)]) rfl rfl rfl rfl rfl rfl rfl rfl ?_
      refine h_iload_n (pc' := 1) rfl rfl rfl ?_
      refine h_i2l (pc' := 2) rfl rfl hz12 (fun z13 hz13 => ?_)
      refine h_lconst (pc' := 3) (x := (Int64.ofInt 0)) rfl rfl rfl ?_
      refine h_lconst (pc' := 4) (x := (Int64.ofInt 1)) rfl rfl rfl ?_
      refine h_calls (pc' := 7) (M := [(0, .long z13), (2, .long (Int64.ofInt 0)), (4, .long (Int64.ofInt 1))]) rfl rfl rfl rfl rfl rfl ?_
      refine h_lload_n (pc' := 1) rfl rfl rfl ?_
      refine h_lload_n (pc' := 2) rfl rfl rfl ?_
      refine h_lcmp (pc' := 3) rfl rfl hz13 cl_0 (fun z14 hz14 => ?_)
      refine h_zlt (tg := 17) (pc' := 6) rfl rfl rfl rfl (fun c15 => absurd c15 (by omega)) (fun c15 => ?_)
      replace c15 := (h_lcr hz14).2.1 c15
      clear hz14
      refine h_lload_n (pc' := 7) rfl rfl rfl ?_
      refine h_lload (pc' := 9) rfl rfl rfl ?_
      refine h_lcmp (pc' := 10) rfl rfl hz13 cl_1 (fun z16 hz16 => ?_)
      refine h_zgt (tg := 17) (pc' := 13) rfl rfl rfl rfl (fun c17 => absurd c17 (by omega)) (fun c17 => ?_)
      replace c17 := (h_lcr hz16).2.2.1 c17
      clear hz16
      refine h_iconst (pc' := 14) (x := (Int32.ofInt 1)) rfl rfl rfl ?_
      refine h_goto (pc' := 18) rfl rfl ?_
      refine h_zret rfl rfl ci_1 (by omega) (h_Kv ?_)
      clear hz13
      refine h_zne (tg := 12) (pc' := 10) rfl rfl rfl ci_1 (fun c18 => ?_) (fun c18 => absurd c18 (by omega))
      refine h_aload_n (pc' := 13) rfl rfl rfl ?_
      refine h_iconst (pc' := 14) (x := (Int32.ofInt 0)) rfl rfl rfl ?_
      refine h_bipush (pc' := 16) (x := (Int32.ofInt 44)) rfl rfl cb_44 ?_
      refine h_iload_n (pc' := 17) rfl rfl rfl ?_
      refine h_iconst (pc' := 18) (x := (Int32.ofInt 1)) rfl rfl rfl ?_
      refine h_iadd (pc' := 19) rfl rfl hz12 ci_1 rfl (by have g0 := h_rgv hz12; omega) (by have g0 := h_rgv hz12; omega) (fun z19 hz19 => ?_)
      refine h_imul (pc' := 20) rfl rfl ci_44 hz19 rfl (by omega) (by omega) (fun z20 hz20 => ?_)
      clear hz19
      have qz20 : z20 = (Int32.ofInt 44) := h_lit (show z20.toInt = 44 by omega) ci_44
      subst qz20
      refine h_call (sp := false) (pc' := 23) (M := [(0, .ref 98), (1, .int (Int32.ofInt 0)), (2, .int (Int32.ofInt 44))]) rfl rfl rfl rfl rfl rfl rfl rfl ?_
      refine n_copies_0_44 _ Is10   (fun s22 Is22 Gs22 ps22_0 => h_Kn ?_)
      have Zs22 : ∀ i, s22 0 i = s0 0 i := fun i => (Gs22 0 i rfl).trans (Zs10 i)
      have Fs22 : h_F (fun _ _ => true) s22 s0 := fun _ _ h => by cases h
      have es22_0 : s22 64 1 = s0 64 1 := (Gs22 64 1 rfl).trans es10.1
      have es22_1 : s22 98 11 = s0 98 11 := (Gs22 98 11 rfl).trans es10.2.1
      have es22_2 : s22 64 4 = s0 64 4 := (Gs22 64 4 rfl).trans es10.2.2.1
      have es22_3 : s22 98 16 = s0 98 16 := (Gs22 98 16 rfl).trans es10.2.2.2.1
      have es22_4 : s22 90 2 = s0 90 2 := (Gs22 90 2 rfl).trans es10.2.2.2.2.1
      have es22_5 : s22 98 29 = s0 98 29 := (Gs22 98 29 rfl).trans es10.2.2.2.2.2.1
      have es22_6 : s22 10 8 = s0 10 8 := (Gs22 10 8 rfl).trans es10.2.2.2.2.2.2.1
      have es22_7 : s22 98 1 = s0 98 1 := (Gs22 98 1 rfl).trans es10.2.2.2.2.2.2.2.1
      have es22_8 : s22 10 9 = s0 10 9 := (Gs22 10 9 rfl).trans es10.2.2.2.2.2.2.2.2.1
      have es22_9 : s22 98 2 = s0 98 2 := (Gs22 98 2 rfl).trans es10.2.2.2.2.2.2.2.2.2.1
      have es22_10 : s22 62 0 = 1 := (Gs22 62 0 rfl).trans es10.2.2.2.2.2.2.2.2.2.2.1
      have es22_11 : s22 110 0 = s0 110 0 := (Gs22 110 0 rfl).trans es10.2.2.2.2.2.2.2.2.2.2.2.1
      have es22_12 : s22 62 1 = s0 62 1 := (Gs22 62 1 rfl).trans es10.2.2.2.2.2.2.2.2.2.2.2.2.1
      have es22_13 : s22 110 1 = s0 110 1 := (Gs22 110 1 rfl).trans es10.2.2.2.2.2.2.2.2.2.2.2.2.2.1
      clear hz20
      refine h_aload_n (pc' := 24) rfl rfl rfl ?_
      refine h_getR (pc' := 27) rfl rfl rfl rfl rfl ?_
      refine h_iload_n (pc' := 28) rfl rfl rfl ?_
      have qz12 : z12 = (Int32.ofInt 0) := h_lit (show z12.toInt = 0 by omega) ci_0
      subst qz12
      refine h_bald (pc' := 29) (v := s0 110 0) rfl rfl rfl ci_0 (by omega) (by omega) es22_11 (fun z23 hz23 => ?_)
      have tz23 := ty_110 I0 0
      clear hz12
      refine h_zeq (tg := 36) (pc' := 32) rfl rfl rfl hz23 (fun c24 => ?_) (fun c24 => absurd (Int.le_antisymm (by omega) (by omega)) c24)
      clear hz23
      refine h_iconst (pc' := 37) (x := (Int32.ofInt 0)) rfl rfl rfl ?_
      refine h_istore_n (pc' := 38) (M := [(2, .int (Int32.ofInt 0)), (0, .ref 98), (1, .int (Int32.ofInt 0))]) rfl rfl rfl rfl ?_
      refine h_aload_n (pc' := 39) rfl rfl rfl ?_
      refine h_getR (pc' := 42) rfl rfl rfl rfl rfl ?_
      refine h_iload_n (pc' := 43) rfl rfl rfl ?_
      refine h_iconst (pc' := 44) (x := (Int32.ofInt 1)) rfl rfl rfl ?_
      refine h_bast (pc' := 45) rfl rfl rfl rfl ci_0 (by omega) (by omega) ci_1 (by omega) (h_fgt (E := fun s => s 64 1 = s0 64 1 ∧ s 98 11 = s0 98 11 ∧ s 64 4 = s0 64 4 ∧ s 98 16 = s0 98 16 ∧ s 90 2 = s0 90 2 ∧ s 98 29 = s0 98 29 ∧ s 10 8 = s0 10 8 ∧ s 98 1 = s0 98 1 ∧ s 10 9 = s0 10 9 ∧ s 98 2 = s0 98 2 ∧ s 62 0 = 1 ∧ s 110 0 = 1 ∧ s 62 1 = s0 62 1 ∧ s 110 1 = s0 110 1 ∧ s = h_up s22 110 0 1) _ (in_110 Is22 (by omega)) (Fs22.up rfl) ⟨es22_0, es22_1, es22_2, es22_3, es22_4, es22_5, es22_6, es22_7, es22_8, es22_9, es22_10, rfl, es22_12, es22_13, rfl⟩ (fun s25 Is25 Fs25 (es25 : s25 64 1 = s0 64 1 ∧ s25 98 11 = s0 98 11 ∧ s25 64 4 = s0 64 4 ∧ s25 98 16 = s0 98 16 ∧ s25 90 2 = s0 90 2 ∧ s25 98 29 = s0 98 29 ∧ s25 10 8 = s0 10 8 ∧ s25 98 1 = s0 98 1 ∧ s25 10 9 = s0 10 9 ∧ s25 98 2 = s0 98 2 ∧ s25 62 0 = 1 ∧ s25 110 0 = 1 ∧ s25 62 1 = s0 62 1 ∧ s25 110 1 = s0 110 1 ∧ s25 = h_up s22 110 0 1) => ?_))
      have us25 := es25.2.2.2.2.2.2.2.2.2.2.2.2.2.2
      have Zs25 : ∀ i, s25 0 i = s0 0 i := fun i => (h_upo us25 rfl i).trans (Zs22 i)
      refine h_iload_n (pc' := 46) rfl rfl rfl ?_
      refine h_iret rfl rfl (h_Kv ?_)
      refine h_pop (pc' := 1240) rfl rfl rfl ?_
      refine h_goto (pc' := 1441) rfl rfl ?_
      exact kk _ Is25 (by first | exact d_tape.le j0 (Int.le_antisymm (by omega) (by omega)) (by omega) (fun j => (h_upo us25 rfl j).trans ((Gs22 65 j rfl).trans ((h_upo us10 rfl j).trans ((Gs9 65 j rfl))))) (fun j => (h_upo us25 rfl j).trans ((Gs22 102 j rfl).trans ((h_upo us10 rfl j).trans ((Gs9 102 j rfl))))) | (exfalso; omega)) (Int.le_antisymm (by omega) (by omega)) (c_R.keep0 j2 I0 (Int.le_antisymm (by omega) (by omega)) (Int.le_antisymm (by omega) (by omega)) ((c_eq.up us25 rfl).tr ((c_eq.fr (fl := true) Gs22 rfl).tr ((c_eq.up us10 rfl).tr (c_eq.fr (fl := true) Gs9 rfl)))) (((c_eq.up us25 rfl).tr ((c_eq.fr (fl := true) Gs22 rfl).tr (c_eq.up us10 rfl))).tr (ps9_0.wk.tr c_eq.rf)) ((c_eq.up us25 rfl).tr ((c_eq.fr (fl := true) Gs22 rfl).tr ((c_eq.up us10 rfl).tr (c_eq.fr (fl := true) Gs9 rfl)))) ((((c_pg.fr (fl := true) (o := 0) Gs9 rfl).tr (c_pg.all (fun j _ _ => h_upo us10 rfl _))).tr (c_pg.fr (fl := true) (o := 0) Gs22 rfl)).tr (c_pg.all (fun j _ _ => h_upo us25 rfl _))) (fun j a b => (((h_upo us25 rfl _)).trans (ps22_0 j a b)).trans ((h_upo us10 rfl _).trans ((Gs9.no (q := 99) (l := 0) (u := 43) (j := 0 + j) rfl (by omega) (by omega))))) ((((c_pg.fr (fl := true) (o := 88) Gs9 rfl).tr (c_pg.all (fun j _ _ => h_upo us10 rfl _))).tr (c_pg.fr (fl := true) (o := 88) Gs22 rfl)).tr (c_pg.all (fun j _ _ => h_upo us25 rfl _))) (Int.le_antisymm (by omega) (by omega)) (Int.le_antisymm (by omega) (by omega)) (Int.le_antisymm (by omega) (by omega)) (Int.le_antisymm (by omega) (by omega))) (g_ti.e j3 ((h_upg us25 rfl).trans ((funext (fun j => Gs22 100 j rfl)).trans ((h_upg us10 rfl).trans (funext (fun j => Gs9 100 j rfl)))))) (g_SH.e j4 ((h_upg us25 rfl).trans ((funext (fun j => Gs22 94 j rfl)).trans ((h_upg us10 rfl).trans (funext (fun j => Gs9 94 j rfl))))) ((h_upg us25 rfl).trans ((funext (fun j => Gs22 95 j rfl)).trans ((h_upg us10 rfl).trans (funext (fun j => Gs9 95 j rfl))))) ((h_upg us25 rfl).trans ((funext (fun j => Gs22 96 j rfl)).trans ((h_upg us10 rfl).trans (funext (fun j => Gs9 96 j rfl))))) ((h_upg us25 rfl).trans ((funext (fun j => Gs22 111 j rfl)).trans ((h_upg us10 rfl).trans (funext (fun j => Gs9 111 j rfl))))) ((h_upg us25 rfl).trans ((funext (fun j => Gs22 112 j rfl)).trans ((h_upg us10 rfl).trans (funext (fun j => Gs9 112 j rfl))))) ((h_upg us25 rfl).trans ((funext (fun j => Gs22 113 j rfl)).trans ((h_upg us10 rfl).trans (funext (fun j => Gs9 113 j rfl)))))) (Int.le_antisymm (by omega) (by omega))
    · clear hz5
      refine h_iconst (pc' := 19) (x := (Int32.ofInt 1)) rfl rfl rfl ?_
      refine h_goto (pc' := 23) rfl rfl ?_
      refine h_istore_n (pc' := 24) (M := [(2, .int (Int32.ofInt 1)), (0, .ref 9), (1, .int (Int32.ofInt 0))]) rfl rfl rfl rfl ?_
      refine h_aload_n (pc' := 25) rfl rfl rfl ?_
      refine h_iload_n (pc' := 26) rfl rfl rfl ?_
      refine h_call (sp := false) (pc' := 29) (M := [(0, .ref 9), (1, .int (Int32.ofInt 0))]) rfl rfl rfl rfl rfl rfl rfl rfl ?_
      refine h_iload_n (pc' := 1) rfl rfl rfl ?_
      refine h_zne (tg := 11) (pc' := 4) rfl rfl rfl ci_0 (fun c26 => absurd (Int.le_antisymm (by omega) (by omega)) c26) (fun c26 => ?_)
      refine h_aload_n (pc' := 5) rfl rfl rfl ?_
      refine h_getR (pc' := 8) rfl rfl rfl rfl rfl ?_
      refine h_goto (pc' := 15) rfl rfl ?_
      refine h_aret rfl rfl (h_Kv ?_)
      refine h_aload_n (pc' := 30) rfl rfl rfl ?_
      refine h_getR (pc' := 33) rfl rfl rfl rfl rfl ?_
      refine h_call (sp := false) (pc' := 36) (M := [(0, .ref 36), (1, .ref 10)]) rfl rfl rfl rfl rfl rfl rfl rfl ?_
      refine n_copy_36_10 _ I0  (fun s28 Is28 Gs28 ps28_0 => h_Kn ?_)
      have Zs28 : ∀ i, s28 0 i = s0 0 i := fun i => (Gs28 0 i rfl).trans rfl
      have Fs28 : h_F (fun _ _ => true) s28 s0 := fun _ _ h => by cases h
      have es28_0 : s28 64 1 = s0 64 1 := (Gs28 64 1 rfl).trans rfl
      have es28_1 : s28 98 11 = s0 98 11 := (Gs28 98 11 rfl).trans rfl
      have es28_2 : s28 64 4 = s0 64 4 := (Gs28 64 4 rfl).trans rfl
      have es28_3 : s28 98 16 = s0 98 16 := (Gs28 98 16 rfl).trans rfl
      have es28_4 : s28 90 2 = s0 90 2 := (Gs28 90 2 rfl).trans rfl
      have es28_5 : s28 98 29 = s0 98 29 := (Gs28 98 29 rfl).trans rfl
      have es28_6 : s28 10 8 = s0 10 8 := (Gs28 10 8 rfl).trans rfl
      have es28_7 : s28 98 1 = s0 98 1 := (Gs28 98 1 rfl).trans rfl
      have es28_8 : s28 10 9 = s0 10 9 := (Gs28 10 9 rfl).trans rfl
      have es28_9 : s28 98 2 = s0 98 2 := (Gs28 98 2 rfl).trans rfl
      have es28_10 : s28 62 0 = s0 62 0 := (Gs28 62 0 rfl).trans rfl
      have es28_11 : s28 110 0 = s0 110 0 := (Gs28 110 0 rfl).trans rfl
      have es28_12 : s28 62 1 = s0 62 1 := (Gs28 62 1 rfl).trans rfl
      have es28_13 : s28 110 1 = s0 110 1 := (Gs28 110 1 rfl).trans rfl
      refine h_aload_n (pc' := 37) rfl rfl rfl ?_
      refine h_getR (pc' := 40) rfl rfl rfl rfl rfl ?_
      refine h_iload_n (pc' := 41) rfl rfl rfl ?_
      refine h_iconst (pc' := 42) (x := (Int32.ofInt 1)) rfl rfl rfl ?_
      refine h_bast (pc' := 43) rfl rfl rfl rfl ci_0 (by omega) (by omega) ci_1 (by omega) (h_fgt (E := fun s => s 64 1 = s0 64 1 ∧ s 98 11 = s0 98 11 ∧ s 64 4 = s0 64 4 ∧ s 98 16 = s0 98 16 ∧ s 90 2 = s0 90 2 ∧ s 98 29 = s0 98 29 ∧ s 10 8 = s0 10 8 ∧ s 98 1 = s0 98 1 ∧ s 10 9 = s0 10 9 ∧ s 98 2 = s0 98 2 ∧ s 62 0 = 1 ∧ s 110 0 = s0 110 0 ∧ s 62 1 = s0 62 1 ∧ s 110 1 = s0 110 1 ∧ s = h_up s28 62 0 1) _ (in_62 Is28 (by omega)) (Fs28.up rfl) ⟨es28_0, es28_1, es28_2, es28_3, es28_4, es28_5, es28_6, es28_7, es28_8, es28_9, rfl, es28_11, es28_12, es28_13, rfl⟩ (fun s29 Is29 Fs29 (es29 : s29 64 1 = s0 64 1 ∧ s29 98 11 = s0 98 11 ∧ s29 64 4 = s0 64 4 ∧ s29 98 16 = s0 98 16 ∧ s29 90 2 = s0 90 2 ∧ s29 98 29 = s0 98 29 ∧ s29 10 8 = s0 10 8 ∧ s29 98 1 = s0 98 1 ∧ s29 10 9 = s0 10 9 ∧ s29 98 2 = s0 98 2 ∧ s29 62 0 = 1 ∧ s29 110 0 = s0 110 0 ∧ s29 62 1 = s0 62 1 ∧ s29 110 1 = s0 110 1 ∧ s29 = h_up s28 62 0 1) => ?_))
      have us29 := es29.2.2.2.2.2.2.2.2.2.2.2.2.2.2
      have Zs29 : ∀ i, s29 0 i = s0 0 i := fun i => (h_upo us29 rfl i).trans (Zs28 i)
      refine h_iload_n (pc' := 44) rfl rfl rfl ?_
      refine h_iret rfl rfl (h_Kv ?_)
      refine h_pop (pc' := 1230) rfl rfl rfl ?_
      refine h_aload_n (pc' := 1231) rfl rfl rfl ?_
      refine h_aload_n (pc' := 1232) rfl rfl rfl ?_
      refine h_iload_n (pc' := 1233) rfl rfl rfl ?_
      refine h_iconst (pc' := 1234) (x := (Int32.ofInt 1)) rfl rfl rfl ?_
      refine h_iadd (pc' := 1235) rfl rfl hy3 ci_1 rfl (by omega) (by omega) (fun z30 hz30 => ?_)
      refine h_iald (pc' := 1236) (v := s0 0 (b3 + 1)) rfl rfl rfl hz30 (by omega) (by omega) (Zs29 _) (fun z31 hz31 => ?_)
      have tz31 := h_rgv hz31
      clear hz30
      refine h_call (sp := false) (pc' := 1239) (M := [(0, .ref 98), (1, .int z31)]) rfl rfl rfl rfl rfl rfl rfl rfl ?_
      refine h_iload_n (pc' := 1) rfl rfl rfl ?_
      refine h_i2l (pc' := 2) rfl rfl hz31 (fun z32 hz32 => ?_)
      refine h_lconst (pc' := 3) (x := (Int64.ofInt 0)) rfl rfl rfl ?_
      refine h_lconst (pc' := 4) (x := (Int64.ofInt 1)) rfl rfl rfl ?_
      refine h_calls (pc' := 7) (M := [(0, .long z32), (2, .long (Int64.ofInt 0)), (4, .long (Int64.ofInt 1))]) rfl rfl rfl rfl rfl rfl ?_
      refine h_lload_n (pc' := 1) rfl rfl rfl ?_
      refine h_lload_n (pc' := 2) rfl rfl rfl ?_
      refine h_lcmp (pc' := 3) rfl rfl hz32 cl_0 (fun z33 hz33 => ?_)
      refine h_zlt (tg := 17) (pc' := 6) rfl rfl rfl rfl (fun c34 => absurd c34 (by omega)) (fun c34 => ?_)
      replace c34 := (h_lcr hz33).2.1 c34
      clear hz33
      refine h_lload_n (pc' := 7) rfl rfl rfl ?_
      refine h_lload (pc' := 9) rfl rfl rfl ?_
      refine h_lcmp (pc' := 10) rfl rfl hz32 cl_1 (fun z35 hz35 => ?_)
      refine h_zgt (tg := 17) (pc' := 13) rfl rfl rfl rfl (fun c36 => absurd c36 (by omega)) (fun c36 => ?_)
      replace c36 := (h_lcr hz35).2.2.1 c36
      clear hz35
      refine h_iconst (pc' := 14) (x := (Int32.ofInt 1)) rfl rfl rfl ?_
      refine h_goto (pc' := 18) rfl rfl ?_
      refine h_zret rfl rfl ci_1 (by omega) (h_Kv ?_)
      clear hz32
      refine h_zne (tg := 12) (pc' := 10) rfl rfl rfl ci_1 (fun c37 => ?_) (fun c37 => absurd c37 (by omega))
      refine h_aload_n (pc' := 13) rfl rfl rfl ?_
      refine h_iconst (pc' := 14) (x := (Int32.ofInt 0)) rfl rfl rfl ?_
      refine h_bipush (pc' := 16) (x := (Int32.ofInt 44)) rfl rfl cb_44 ?_
      refine h_iload_n (pc' := 17) rfl rfl rfl ?_
      refine h_iconst (pc' := 18) (x := (Int32.ofInt 1)) rfl rfl rfl ?_
      refine h_iadd (pc' := 19) rfl rfl hz31 ci_1 rfl (by have g0 := h_rgv hz31; omega) (by have g0 := h_rgv hz31; omega) (fun z38 hz38 => ?_)
      refine h_imul (pc' := 20) rfl rfl ci_44 hz38 rfl (by omega) (by omega) (fun z39 hz39 => ?_)
      clear hz38
      have qz39 : z39 = (Int32.ofInt 44) := h_lit (show z39.toInt = 44 by omega) ci_44
      subst qz39
      refine h_call (sp := false) (pc' := 23) (M := [(0, .ref 98), (1, .int (Int32.ofInt 0)), (2, .int (Int32.ofInt 44))]) rfl rfl rfl rfl rfl rfl rfl rfl ?_
      refine n_copies_0_44 _ Is29   (fun s41 Is41 Gs41 ps41_0 => h_Kn ?_)
      have Zs41 : ∀ i, s41 0 i = s0 0 i := fun i => (Gs41 0 i rfl).trans (Zs29 i)
      have Fs41 : h_F (fun _ _ => true) s41 s0 := fun _ _ h => by cases h
      have es41_0 : s41 64 1 = s0 64 1 := (Gs41 64 1 rfl).trans es29.1
      have es41_1 : s41 98 11 = s0 98 11 := (Gs41 98 11 rfl).trans es29.2.1
      have es41_2 : s41 64 4 = s0 64 4 := (Gs41 64 4 rfl).trans es29.2.2.1
      have es41_3 : s41 98 16 = s0 98 16 := (Gs41 98 16 rfl).trans es29.2.2.2.1
      have es41_4 : s41 90 2 = s0 90 2 := (Gs41 90 2 rfl).trans es29.2.2.2.2.1
      have es41_5 : s41 98 29 = s0 98 29 := (Gs41 98 29 rfl).trans es29.2.2.2.2.2.1
      have es41_6 : s41 10 8 = s0 10 8 := (Gs41 10 8 rfl).trans es29.2.2.2.2.2.2.1
      have es41_7 : s41 98 1 = s0 98 1 := (Gs41 98 1 rfl).trans es29.2.2.2.2.2.2.2.1
      have es41_8 : s41 10 9 = s0 10 9 := (Gs41 10 9 rfl).trans es29.2.2.2.2.2.2.2.2.1
      have es41_9 : s41 98 2 = s0 98 2 := (Gs41 98 2 rfl).trans es29.2.2.2.2.2.2.2.2.2.1
      have es41_10 : s41 62 0 = 1 := (Gs41 62 0 rfl).trans es29.2.2.2.2.2.2.2.2.2.2.1
      have es41_11 : s41 110 0 = s0 110 0 := (Gs41 110 0 rfl).trans es29.2.2.2.2.2.2.2.2.2.2.2.1
      have es41_12 : s41 62 1 = s0 62 1 := (Gs41 62 1 rfl).trans es29.2.2.2.2.2.2.2.2.2.2.2.2.1
      have es41_13 : s41 110 1 = s0 110 1 := (Gs41 110 1 rfl).trans es29.2.2.2.2.2.2.2.2.2.2.2.2.2.1
      clear hz39
      refine h_aload_n (pc' := 24) rfl rfl rfl ?_
      refine h_getR (pc' := 27) rfl rfl rfl rfl rfl ?_
      refine h_iload_n (pc' := 28) rfl rfl rfl ?_
      have qz31 : z31 = (Int32.ofInt 0) := h_lit (show z31.toInt = 0 by omega) ci_0
      subst qz31
      refine h_bald (pc' := 29) (v := s0 110 0) rfl rfl rfl ci_0 (by omega) (by omega) es41_11 (fun z42 hz42 => ?_)
      have tz42 := ty_110 I0 0
      clear hz31
      refine h_zeq (tg := 36) (pc' := 32) rfl rfl rfl hz42 (fun c43 => absurd c43 (by omega)) (fun c43 => ?_)
      clear hz42
      refine h_iconst (pc' := 33) (x := (Int32.ofInt 1)) rfl rfl rfl ?_
      refine h_goto (pc' := 37) rfl rfl ?_
      refine h_istore_n (pc' := 38) (M := [(2, .int (Int32.ofInt 1)), (0, .ref 98), (1, .int (Int32.ofInt 0))]) rfl rfl rfl rfl ?_
      refine h_aload_n (pc' := 39) rfl rfl rfl ?_
      refine h_getR (pc' := 42) rfl rfl rfl rfl rfl ?_
      refine h_iload_n (pc' := 43) rfl rfl rfl ?_
      refine h_iconst (pc' := 44) (x := (Int32.ofInt 1)) rfl rfl rfl ?_
      refine h_bast (pc' := 45) rfl rfl rfl rfl ci_0 (by omega) (by omega) ci_1 (by omega) (h_fgt (E := fun s => s 64 1 = s0 64 1 ∧ s 98 11 = s0 98 11 ∧ s 64 4 = s0 64 4 ∧ s 98 16 = s0 98 16 ∧ s 90 2 = s0 90 2 ∧ s 98 29 = s0 98 29 ∧ s 10 8 = s0 10 8 ∧ s 98 1 = s0 98 1 ∧ s 10 9 = s0 10 9 ∧ s 98 2 = s0 98 2 ∧ s 62 0 = 1 ∧ s 110 0 = 1 ∧ s 62 1 = s0 62 1 ∧ s 110 1 = s0 110 1 ∧ s = h_up s41 110 0 1) _ (in_110 Is41 (by omega)) (Fs41.up rfl) ⟨es41_0, es41_1, es41_2, es41_3, es41_4, es41_5, es41_6, es41_7, es41_8, es41_9, es41_10, rfl, es41_12, es41_13, rfl⟩ (fun s44 Is44 Fs44 (es44 : s44 64 1 = s0 64 1 ∧ s44 98 11 = s0 98 11 ∧ s44 64 4 = s0 64 4 ∧ s44 98 16 = s0 98 16 ∧ s44 90 2 = s0 90 2 ∧ s44 98 29 = s0 98 29 ∧ s44 10 8 = s0 10 8 ∧ s44 98 1 = s0 98 1 ∧ s44 10 9 = s0 10 9 ∧ s44 98 2 = s0 98 2 ∧ s44 62 0 = 1 ∧ s44 110 0 = 1 ∧ s44 62 1 = s0 62 1 ∧ s44 110 1 = s0 110 1 ∧ s44 = h_up s41 110 0 1) => ?_))
      have us44 := es44.2.2.2.2.2.2.2.2.2.2.2.2.2.2
      have Zs44 : ∀ i, s44 0 i = s0 0 i := fun i => (h_upo us44 rfl i).trans (Zs41 i)
      refine h_iload_n (pc' := 46) rfl rfl rfl ?_
      refine h_iret rfl rfl (h_Kv ?_)
      refine h_pop (pc' := 1240) rfl rfl rfl ?_
      refine h_goto (pc' := 1441) rfl rfl ?_
      exact kk _ Is44 (by first | exact d_tape.le j0 (Int.le_antisymm (by omega) (by omega)) (by omega) (fun j => (h_upo us44 rfl j).trans ((Gs41 65 j rfl).trans ((h_upo us29 rfl j).trans ((Gs28 65 j rfl))))) (fun j => (h_upo us44 rfl j).trans ((Gs41 102 j rfl).trans ((h_upo us29 rfl j).trans ((Gs28 102 j rfl))))) | (exfalso; omega)) (Int.le_antisymm (by omega) (by omega)) (c_R.keep0 j2 I0 (Int.le_antisymm (by omega) (by omega)) (Int.le_antisymm (by omega) (by omega)) ((c_eq.up us44 rfl).tr ((c_eq.fr (fl := true) Gs41 rfl).tr ((c_eq.up us29 rfl).tr (c_eq.fr (fl := true) Gs28 rfl)))) (((c_eq.up us44 rfl).tr ((c_eq.fr (fl := true) Gs41 rfl).tr (c_eq.up us29 rfl))).tr (ps28_0.wk.tr c_eq.rf)) ((c_eq.up us44 rfl).tr ((c_eq.fr (fl := true) Gs41 rfl).tr ((c_eq.up us29 rfl).tr (c_eq.fr (fl := true) Gs28 rfl)))) ((((c_pg.fr (fl := true) (o := 0) Gs28 rfl).tr (c_pg.all (fun j _ _ => h_upo us29 rfl _))).tr (c_pg.fr (fl := true) (o := 0) Gs41 rfl)).tr (c_pg.all (fun j _ _ => h_upo us44 rfl _))) (fun j a b => (((h_upo us44 rfl _)).trans (ps41_0 j a b)).trans ((h_upo us29 rfl _).trans ((Gs28.no (q := 99) (l := 0) (u := 43) (j := 0 + j) rfl (by omega) (by omega))))) ((((c_pg.fr (fl := true) (o := 88) Gs28 rfl).tr (c_pg.all (fun j _ _ => h_upo us29 rfl _))).tr (c_pg.fr (fl := true) (o := 88) Gs41 rfl)).tr (c_pg.all (fun j _ _ => h_upo us44 rfl _))) (Int.le_antisymm (by omega) (by omega)) (Int.le_antisymm (by omega) (by omega)) (Int.le_antisymm (by omega) (by omega)) (Int.le_antisymm (by omega) (by omega))) (g_ti.e j3 ((h_upg us44 rfl).trans ((funext (fun j => Gs41 100 j rfl)).trans ((h_upg us29 rfl).trans (funext (fun j => Gs28 100 j rfl)))))) (g_SH.e j4 ((h_upg us44 rfl).trans ((funext (fun j => Gs41 94 j rfl)).trans ((h_upg us29 rfl).trans (funext (fun j => Gs28 94 j rfl))))) ((h_upg us44 rfl).trans ((funext (fun j => Gs41 95 j rfl)).trans ((h_upg us29 rfl).trans (funext (fun j => Gs28 95 j rfl))))) ((h_upg us44 rfl).trans ((funext (fun j => Gs41 96 j rfl)).trans ((h_upg us29 rfl).trans (funext (fun j => Gs28 96 j rfl))))) ((h_upg us44 rfl).trans ((funext (fun j => Gs41 111 j rfl)).trans ((h_upg us29 rfl).trans (funext (fun j => Gs28 111 j rfl))))) ((h_upg us44 rfl).trans ((funext (fun j => Gs41 112 j rfl)).trans ((h_upg us29 rfl).trans (funext (fun j => Gs28 112 j rfl))))) ((h_upg us44 rfl).trans ((funext (fun j => Gs41 113 j rfl)).trans ((h_upg us29 rfl).trans (funext (fun j => Gs28 113 j rfl)))))) (Int.le_antisymm (by omega) (by omega))
  · refine h_iload_n (pc' := 5) rfl rfl rfl ?_
    refine h_iconst (pc' := 6) (x := (Int32.ofInt 1)) rfl rfl rfl ?_
    refine h_cne (tg := 13) (pc' := 9) rfl rfl rfl hz2 ci_1 (fun c45 => ?_) (fun c45 => ?_)
    · refine h_iconst (pc' := 14) (x := (Int32.ofInt 0)) rfl rfl rfl ?_
      refine h_zret rfl rfl ci_0 (by omega) (h_Kv ?_)
      refine h_zne (tg := 9) (pc' := 7) rfl rfl rfl ci_0 (fun c46 => absurd (Int.le_antisymm (by omega) (by omega)) c46) (fun c46 => ?_)
      refine h_iconst (pc' := 8) (x := (Int32.ofInt (-1))) rfl rfl rfl ?_
      refine h_iret rfl rfl (h_Kv ?_)
      clear hz2
      refine h_pop (pc' := 1230) rfl rfl rfl ?_
      refine h_aload_n (pc' := 1231) rfl rfl rfl ?_
      refine h_aload_n (pc' := 1232) rfl rfl rfl ?_
      refine h_iload_n (pc' := 1233) rfl rfl rfl ?_
      refine h_iconst (pc' := 1234) (x := (Int32.ofInt 1)) rfl rfl rfl ?_
      refine h_iadd (pc' := 1235) rfl rfl hy3 ci_1 rfl (by omega) (by omega) (fun z47 hz47 => ?_)
      refine h_iald (pc' := 1236) (v := s0 0 (b3 + 1)) rfl rfl rfl hz47 (by omega) (by omega) rfl (fun z48 hz48 => ?_)
      have tz48 := h_rgv hz48
      clear hz47
      refine h_call (sp := false) (pc' := 1239) (M := [(0, .ref 98), (1, .int z48)]) rfl rfl rfl rfl rfl rfl rfl rfl ?_
      refine h_iload_n (pc' := 1) rfl rfl rfl ?_
      refine h_i2l (pc' := 2) rfl rfl hz48 (fun z49 hz49 => ?_)
      refine h_lconst (pc' := 3) (x := (Int64.ofInt 0)) rfl rfl rfl ?_
      refine h_lconst (pc' := 4) (x := (Int64.ofInt 1)) rfl rfl rfl ?_
      refine h_calls (pc' := 7) (M := [(0, .long z49), (2, .long (Int64.ofInt 0)), (4, .long (Int64.ofInt 1))]) rfl rfl rfl rfl rfl rfl ?_
      refine h_lload_n (pc' := 1) rfl rfl rfl ?_
      refine h_lload_n (pc' := 2) rfl rfl rfl ?_
      refine h_lcmp (pc' := 3) rfl rfl hz49 cl_0 (fun z50 hz50 => ?_)
      refine h_zlt (tg := 17) (pc' := 6) rfl rfl rfl rfl (fun c51 => ?_) (fun c51 => ?_)
      · replace c51 := (h_lcr hz50).1 c51
        clear hz50
        refine h_iconst (pc' := 18) (x := (Int32.ofInt 0)) rfl rfl rfl ?_
        refine h_zret rfl rfl ci_0 (by omega) (h_Kv ?_)
        clear hz49
        refine h_zne (tg := 12) (pc' := 10) rfl rfl rfl ci_0 (fun c52 => absurd (Int.le_antisymm (by omega) (by omega)) c52) (fun c52 => ?_)
        refine h_iconst (pc' := 11) (x := (Int32.ofInt (-1))) rfl rfl rfl ?_
        refine h_iret rfl rfl (h_Kv ?_)
        clear hz48
        refine h_pop (pc' := 1240) rfl rfl rfl ?_
        refine h_goto (pc' := 1441) rfl rfl ?_
        exact kk _ I0 (by first | exact d_tape.le j0 (Int.le_antisymm (by omega) (by omega)) (by omega) (fun j => rfl) (fun j => rfl) | (exfalso; omega)) (Int.le_antisymm (by omega) (by omega)) j2 (g_ti.e j3 rfl) (g_SH.e j4 rfl rfl rfl rfl rfl rfl) (Int.le_antisymm (by omega) (by omega))
      · replace c51 := (h_lcr hz50).2.1 c51
        clear hz50
        refine h_lload_n (pc' := 7) rfl rfl rfl ?_
        refine h_lload (pc' := 9) rfl rfl rfl ?_
        refine h_lcmp (pc' := 10) rfl rfl hz49 cl_1 (fun z53 hz53 => ?_)
        refine h_zgt (tg := 17) (pc' := 13) rfl rfl rfl rfl (fun c54 => ?_) (fun c54 => absurd c54 (by omega))
        replace c54 := (h_lcr hz53).2.2.2.1 c54
        clear hz53
        refine h_iconst (pc' := 18) (x := (Int32.ofInt 0)) rfl rfl rfl ?_
        refine h_zret rfl rfl ci_0 (by omega) (h_Kv ?_)
        clear hz49
        refine h_zne (tg := 12) (pc' := 10) rfl rfl rfl ci_0 (fun c55 => absurd (Int.le_antisymm (by omega) (by omega)) c55) (fun c55 => ?_)
        refine h_iconst (pc' := 11) (x := (Int32.ofInt (-1))) rfl rfl rfl ?_
        refine h_iret rfl rfl (h_Kv ?_)
        clear hz48
        refine h_pop (pc' := 1240) rfl rfl rfl ?_
        refine h_goto (pc' := 1441) rfl rfl ?_
        exact kk _ I0 (by first | exact d_tape.le j0 (Int.le_antisymm (by omega) (by omega)) (by omega) (fun j => rfl) (fun j => rfl) | (exfalso; omega)) (Int.le_antisymm (by omega) (by omega)) j2 (g_ti.e j3 rfl) (g_SH.e j4 rfl rfl rfl rfl rfl rfl) (Int.le_antisymm (by omega) (by omega))
    · refine h_iconst (pc' := 10) (x := (Int32.ofInt 1)) rfl rfl rfl ?_
      refine h_goto (pc' := 14) rfl rfl ?_
      refine h_zret rfl rfl ci_1 (by omega) (h_Kv ?_)
      refine h_zne (tg := 9) (pc' := 7) rfl rfl rfl ci_1 (fun c56 => ?_) (fun c56 => absurd c56 (by omega))
      refine h_aload_n (pc' := 10) rfl rfl rfl ?_
      refine h_getR (pc' := 13) rfl rfl rfl rfl rfl ?_
      refine h_iload_n (pc' := 14) rfl rfl rfl ?_
      have qz2 : z2 = (Int32.ofInt 1) := h_lit (show z2.toInt = 1 by omega) ci_1
      subst qz2
      refine h_bald (pc' := 15) (v := s0 62 1) rfl rfl rfl ci_1 (by omega) (by omega) rfl (fun z57 hz57 => ?_)
      have tz57 := ty_62 I0 1
      clear hz2
      refine h_zeq (tg := 22) (pc' := 18) rfl rfl rfl hz57 (fun c58 => ?_) (fun c58 => ?_)
      · clear hz57
        refine h_iconst (pc' := 23) (x := (Int32.ofInt 0)) rfl rfl rfl ?_
        refine h_istore_n (pc' := 24) (M := [(2, .int (Int32.ofInt 0)), (0, .ref 9), (1, .int (Int32.ofInt 1))]) rfl rfl rfl rfl ?_
        refine h_aload_n (pc' := 25) rfl rfl rfl ?_
        refine h_iload_n (pc' := 26) rfl rfl rfl ?_
        refine h_call (sp := false) (pc' := 29) (M := [(0, .ref 9), (1, .int (Int32.ofInt 1))]) rfl rfl rfl rfl rfl rfl rfl rfl ?_
        refine h_iload_n (pc' := 1) rfl rfl rfl ?_
        refine h_zne (tg := 11) (pc' := 4) rfl rfl rfl ci_1 (fun c59 => ?_) (fun c59 => absurd c59 (by omega))
        refine h_aload_n (pc' := 12) rfl rfl rfl ?_
        refine h_getR (pc' := 15) rfl rfl rfl rfl rfl ?_
        refine h_aret rfl rfl (h_Kv ?_)
        refine h_aload_n (pc' := 30) rfl rfl rfl ?_
        refine h_getR (pc' := 33) rfl rfl rfl rfl rfl ?_
        refine h_call (sp := false) (pc' := 36) (M := [(0, .ref 49), (1, .ref 10)]) rfl rfl rfl rfl rfl rfl rfl rfl ?_
        refine n_copy_49_10 _ I0  (fun s61 Is61 Gs61 ps61_0 => h_Kn ?_)
        have Zs61 : ∀ i, s61 0 i = s0 0 i := fun i => (Gs61 0 i rfl).trans rfl
        have Fs61 : h_F (fun _ _ => true) s61 s0 := fun _ _ h => by cases h
        have es61_0 : s61 64 1 = s0 64 1 := (Gs61 64 1 rfl).trans rfl
        have es61_1 : s61 98 11 = s0 98 11 := (Gs61 98 11 rfl).trans rfl
        have es61_2 : s61 64 4 = s0 64 4 := (Gs61 64 4 rfl).trans rfl
        have es61_3 : s61 98 16 = s0 98 16 := (Gs61 98 16 rfl).trans rfl
        have es61_4 : s61 90 2 = s0 90 2 := (Gs61 90 2 rfl).trans rfl
        have es61_5 : s61 98 29 = s0 98 29 := (Gs61 98 29 rfl).trans rfl
        have es61_6 : s61 10 8 = s0 10 8 := (Gs61 10 8 rfl).trans rfl
        have es61_7 : s61 98 1 = s0 98 1 := (Gs61 98 1 rfl).trans rfl
        have es61_8 : s61 10 9 = s0 10 9 := (Gs61 10 9 rfl).trans rfl
        have es61_9 : s61 98 2 = s0 98 2 := (Gs61 98 2 rfl).trans rfl
        have es61_10 : s61 62 0 = s0 62 0 := (Gs61 62 0 rfl).trans rfl
        have es61_11 : s61 110 0 = s0 110 0 := (Gs61 110 0 rfl).trans rfl
        have es61_12 : s61 62 1 = s0 62 1 := (Gs61 62 1 rfl).trans rfl
        have es61_13 : s61 110 1 = s0 110 1 := (Gs61 110 1 rfl).trans rfl
        refine h_aload_n (pc' := 37) rfl rfl rfl ?_
        refine h_getR (pc' := 40) rfl rfl rfl rfl rfl ?_
        refine h_iload_n (pc' := 41) rfl rfl rfl ?_
        refine h_iconst (pc' := 42) (x := (Int32.ofInt 1)) rfl rfl rfl ?_
        refine h_bast (pc' := 43) rfl rfl rfl rfl ci_1 (by omega) (by omega) ci_1 (by omega) (h_fgt (E := fun s => s 64 1 = s0 64 1 ∧ s 98 11 = s0 98 11 ∧ s 64 4 = s0 64 4 ∧ s 98 16 = s0 98 16 ∧ s 90 2 = s0 90 2 ∧ s 98 29 = s0 98 29 ∧ s 10 8 = s0 10 8 ∧ s 98 1 = s0 98 1 ∧ s 10 9 = s0 10 9 ∧ s 98 2 = s0 98 2 ∧ s 62 0 = s0 62 0 ∧ s 110 0 = s0 110 0 ∧ s 62 1 = 1 ∧ s 110 1 = s0 110 1 ∧ s = h_up s61 62 1 1) _ (in_62 Is61 (by omega)) (Fs61.up rfl) ⟨es61_0, es61_1, es61_2, es61_3, es61_4, es61_5, es61_6, es61_7, es61_8, es61_9, es61_10, es61_11, rfl, es61_13, rfl⟩ (fun s62 Is62 Fs62 (es62 : s62 64 1 = s0 64 1 ∧ s62 98 11 = s0 98 11 ∧ s62 64 4 = s0 64 4 ∧ s62 98 16 = s0 98 16 ∧ s62 90 2 = s0 90 2 ∧ s62 98 29 = s0 98 29 ∧ s62 10 8 = s0 10 8 ∧ s62 98 1 = s0 98 1 ∧ s62 10 9 = s0 10 9 ∧ s62 98 2 = s0 98 2 ∧ s62 62 0 = s0 62 0 ∧ s62 110 0 = s0 110 0 ∧ s62 62 1 = 1 ∧ s62 110 1 = s0 110 1 ∧ s62 = h_up s61 62 1 1) => ?_))
        have us62 := es62.2.2.2.2.2.2.2.2.2.2.2.2.2.2
        have Zs62 : ∀ i, s62 0 i = s0 0 i := fun i => (h_upo us62 rfl i).trans (Zs61 i)
        refine h_iload_n (pc' := 44) rfl rfl rfl ?_
        refine h_iret rfl rfl (h_Kv ?_)
        refine h_pop (pc' := 1230) rfl rfl rfl ?_
        refine h_aload_n (pc' := 1231) rfl rfl rfl ?_
        refine h_aload_n (pc' := 1232) rfl rfl rfl ?_
        refine h_iload_n (pc' := 1233) rfl rfl rfl ?_
        refine h_iconst (pc' := 1234) (x := (Int32.ofInt 1)) rfl rfl rfl ?_
        refine h_iadd (pc' := 1235) rfl rfl hy3 ci_1 rfl (by omega) (by omega) (fun z63 hz63 => ?_)
        refine h_iald (pc' := 1236) (v := s0 0 (b3 + 1)) rfl rfl rfl hz63 (by omega) (by omega) (Zs62 _) (fun z64 hz64 => ?_)
        have tz64 := h_rgv hz64
        clear hz63
        refine h_call (sp := false) (pc' := 1239) (M := [(0, .ref 98), (1, .int z64)]) rfl rfl rfl rfl rfl rfl rfl rfl ?_
        refine h_iload_n (pc' := 1) rfl rfl rfl ?_
        refine h_i2l (pc' := 2) rfl rfl hz64 (fun z65 hz65 => ?_)
        refine h_lconst (pc' := 3) (x := (Int64.ofInt 0)) rfl rfl rfl ?_
        refine h_lconst (pc' := 4) (x := (Int64.ofInt 1)) rfl rfl rfl ?_
        refine h_calls (pc' := 7) (M := [(0, .long z65), (2, .long (Int64.ofInt 0)), (4, .long (Int64.ofInt 1))]) rfl rfl rfl rfl rfl rfl ?_
        refine h_lload_n (pc' := 1) rfl rfl rfl ?_
        refine h_lload_n (pc' := 2) rfl rfl rfl ?_
        refine h_lcmp (pc' := 3) rfl rfl hz65 cl_0 (fun z66 hz66 => ?_)
        refine h_zlt (tg := 17) (pc' := 6) rfl rfl rfl rfl (fun c67 => absurd c67 (by omega)) (fun c67 => ?_)
        replace c67 := (h_lcr hz66).2.1 c67
        clear hz66
        refine h_lload_n (pc' := 7) rfl rfl rfl ?_
        refine h_lload (pc' := 9) rfl rfl rfl ?_
        refine h_lcmp (pc' := 10) rfl rfl hz65 cl_1 (fun z68 hz68 => ?_)
        refine h_zgt (tg := 17) (pc' := 13) rfl rfl rfl rfl (fun c69 => absurd c69 (by omega)) (fun c69 => ?_)
        replace c69 := (h_lcr hz68).2.2.1 c69
        clear hz68
        refine h_iconst (pc' := 14) (x := (Int32.ofInt 1)) rfl rfl rfl ?_
        refine h_goto (pc' := 18) rfl rfl ?_
        refine h_zret rfl rfl ci_1 (by omega) (h_Kv ?_)
        clear hz65
        refine h_zne (tg := 12) (pc' := 10) rfl rfl rfl ci_1 (fun c70 => ?_) (fun c70 => absurd c70 (by omega))
        refine h_aload_n (pc' := 13) rfl rfl rfl ?_
        refine h_iconst (pc' := 14) (x := (Int32.ofInt 0)) rfl rfl rfl ?_
        refine h_bipush (pc' := 16) (x := (Int32.ofInt 44)) rfl rfl cb_44 ?_
        refine h_iload_n (pc' := 17) rfl rfl rfl ?_
        refine h_iconst (pc' := 18) (x := (Int32.ofInt 1)) rfl rfl rfl ?_
        refine h_iadd (pc' := 19) rfl rfl hz64 ci_1 rfl (by have g0 := h_rgv hz64; omega) (by have g0 := h_rgv hz64; omega) (fun z71 hz71 => ?_)
        refine h_imul (pc' := 20) rfl rfl ci_44 hz71 rfl (by omega) (by omega) (fun z72 hz72 => ?_)
        clear hz71
        have qz72 : z72 = (Int32.ofInt 88) := h_lit (show z72.toInt = 88 by omega) ci_88
        subst qz72
        refine h_call (sp := false) (pc' := 23) (M := [(0, .ref 98), (1, .int (Int32.ofInt 0)), (2, .int (Int32.ofInt 88))]) rfl rfl rfl rfl rfl rfl rfl rfl ?_
        refine n_copies_0_88 _ Is62   (fun s74 Is74 Gs74 ps74_0 => h_Kn ?_)
        have Zs74 : ∀ i, s74 0 i = s0 0 i := fun i => (Gs74 0 i rfl).trans (Zs62 i)
        have Fs74 : h_F (fun _ _ => true) s74 s0 := fun _ _ h => by cases h
        have es74_0 : s74 64 1 = s0 64 1 := (Gs74 64 1 rfl).trans es62.1
        have es74_1 : s74 98 11 = s0 98 11 := (Gs74 98 11 rfl).trans es62.2.1
        have es74_2 : s74 64 4 = s0 64 4 := (Gs74 64 4 rfl).trans es62.2.2.1
        have es74_3 : s74 98 16 = s0 98 16 := (Gs74 98 16 rfl).trans es62.2.2.2.1
        have es74_4 : s74 90 2 = s0 90 2 := (Gs74 90 2 rfl).trans es62.2.2.2.2.1
        have es74_5 : s74 98 29 = s0 98 29 := (Gs74 98 29 rfl).trans es62.2.2.2.2.2.1
        have es74_6 : s74 10 8 = s0 10 8 := (Gs74 10 8 rfl).trans es62.2.2.2.2.2.2.1
        have es74_7 : s74 98 1 = s0 98 1 := (Gs74 98 1 rfl).trans es62.2.2.2.2.2.2.2.1
        have es74_8 : s74 10 9 = s0 10 9 := (Gs74 10 9 rfl).trans es62.2.2.2.2.2.2.2.2.1
        have es74_9 : s74 98 2 = s0 98 2 := (Gs74 98 2 rfl).trans es62.2.2.2.2.2.2.2.2.2.1
        have es74_10 : s74 62 0 = s0 62 0 := (Gs74 62 0 rfl).trans es62.2.2.2.2.2.2.2.2.2.2.1
        have es74_11 : s74 110 0 = s0 110 0 := (Gs74 110 0 rfl).trans es62.2.2.2.2.2.2.2.2.2.2.2.1
        have es74_12 : s74 62 1 = 1 := (Gs74 62 1 rfl).trans es62.2.2.2.2.2.2.2.2.2.2.2.2.1
        have es74_13 : s74 110 1 = s0 110 1 := (Gs74 110 1 rfl).trans es62.2.2.2.2.2.2.2.2.2.2.2.2.2.1
        clear hz72
        refine h_aload_n (pc' := 24) rfl rfl rfl ?_
        refine h_getR (pc' := 27) rfl rfl rfl rfl rfl ?_
        refine h_iload_n (pc' := 28) rfl rfl rfl ?_
        have qz64 : z64 = (Int32.ofInt 1) := h_lit (show z64.toInt = 1 by omega) ci_1
        subst qz64
        refine h_bald (pc' := 29) (v := s0 110 1) rfl rfl rfl ci_1 (by omega) (by omega) es74_13 (fun z75 hz75 => ?_)
        have tz75 := ty_110 I0 1
        clear hz64
        refine h_zeq (tg := 36) (pc' := 32) rfl rfl rfl hz75 (fun c76 => ?_) (fun c76 => absurd (Int.le_antisymm (by omega) (by omega)) c76)
        clear hz75
        refine h_iconst (pc' := 37) (x := (Int32.ofInt 0)) rfl rfl rfl ?_
        refine h_istore_n (pc' := 38) (M := [(2, .int (Int32.ofInt 0)), (0, .ref 98), (1, .int (Int32.ofInt 1))]) rfl rfl rfl rfl ?_
        refine h_aload_n (pc' := 39) rfl rfl rfl ?_
        refine h_getR (pc' := 42) rfl rfl rfl rfl rfl ?_
        refine h_iload_n (pc' := 43) rfl rfl rfl ?_
        refine h_iconst (pc' := 44) (x := (Int32.ofInt 1)) rfl rfl rfl ?_
        refine h_bast (pc' := 45) rfl rfl rfl rfl ci_1 (by omega) (by omega) ci_1 (by omega) (h_fgt (E := fun s => s 64 1 = s0 64 1 ∧ s 98 11 = s0 98 11 ∧ s 64 4 = s0 64 4 ∧ s 98 16 = s0 98 16 ∧ s 90 2 = s0 90 2 ∧ s 98 29 = s0 98 29 ∧ s 10 8 = s0 10 8 ∧ s 98 1 = s0 98 1 ∧ s 10 9 = s0 10 9 ∧ s 98 2 = s0 98 2 ∧ s 62 0 = s0 62 0 ∧ s 110 0 = s0 110 0 ∧ s 62 1 = 1 ∧ s 110 1 = 1 ∧ s = h_up s74 110 1 1) _ (in_110 Is74 (by omega)) (Fs74.up rfl) ⟨es74_0, es74_1, es74_2, es74_3, es74_4, es74_5, es74_6, es74_7, es74_8, es74_9, es74_10, es74_11, es74_12, rfl, rfl⟩ (fun s77 Is77 Fs77 (es77 : s77 64 1 = s0 64 1 ∧ s77 98 11 = s0 98 11 ∧ s77 64 4 = s0 64 4 ∧ s77 98 16 = s0 98 16 ∧ s77 90 2 = s0 90 2 ∧ s77 98 29 = s0 98 29 ∧ s77 10 8 = s0 10 8 ∧ s77 98 1 = s0 98 1 ∧ s77 10 9 = s0 10 9 ∧ s77 98 2 = s0 98 2 ∧ s77 62 0 = s0 62 0 ∧ s77 110 0 = s0 110 0 ∧ s77 62 1 = 1 ∧ s77 110 1 = 1 ∧ s77 = h_up s74 110 1 1) => ?_))
        have us77 := es77.2.2.2.2.2.2.2.2.2.2.2.2.2.2
        have Zs77 : ∀ i, s77 0 i = s0 0 i := fun i => (h_upo us77 rfl i).trans (Zs74 i)
        refine h_iload_n (pc' := 46) rfl rfl rfl ?_
        refine h_iret rfl rfl (h_Kv ?_)
        refine h_pop (pc' := 1240) rfl rfl rfl ?_
        refine h_goto (pc' := 1441) rfl rfl ?_
        exact kk _ Is77 (by first | exact d_tape.le j0 (Int.le_antisymm (by omega) (by omega)) (by omega) (fun j => (h_upo us77 rfl j).trans ((Gs74 65 j rfl).trans ((h_upo us62 rfl j).trans ((Gs61 65 j rfl))))) (fun j => (h_upo us77 rfl j).trans ((Gs74 102 j rfl).trans ((h_upo us62 rfl j).trans ((Gs61 102 j rfl))))) | (exfalso; omega)) (Int.le_antisymm (by omega) (by omega)) (c_R.keep1 j2 I0 (Int.le_antisymm (by omega) (by omega)) (Int.le_antisymm (by omega) (by omega)) ((c_eq.up us77 rfl).tr ((c_eq.fr (fl := true) Gs74 rfl).tr ((c_eq.up us62 rfl).tr (c_eq.fr (fl := true) Gs61 rfl)))) ((c_eq.up us77 rfl).tr ((c_eq.fr (fl := true) Gs74 rfl).tr ((c_eq.up us62 rfl).tr (c_eq.fr (fl := true) Gs61 rfl)))) (((c_eq.up us77 rfl).tr ((c_eq.fr (fl := true) Gs74 rfl).tr (c_eq.up us62 rfl))).tr (ps61_0.wk.tr c_eq.rf)) ((((c_pg.fr (fl := true) (o := 0) Gs61 rfl).tr (c_pg.all (fun j _ _ => h_upo us62 rfl _))).tr (c_pg.fr (fl := true) (o := 0) Gs74 rfl)).tr (c_pg.all (fun j _ _ => h_upo us77 rfl _))) ((((c_pg.fr (fl := true) (o := 44) Gs61 rfl).tr (c_pg.all (fun j _ _ => h_upo us62 rfl _))).tr (c_pg.fr (fl := true) (o := 44) Gs74 rfl)).tr (c_pg.all (fun j _ _ => h_upo us77 rfl _))) (fun j a b => (((h_upo us77 rfl _)).trans (ps74_0 j a b)).trans ((h_upo us62 rfl _).trans ((Gs61.no (q := 99) (l := 0) (u := 43) (j := 0 + j) rfl (by omega) (by omega))))) (Int.le_antisymm (by omega) (by omega)) (Int.le_antisymm (by omega) (by omega)) (Int.le_antisymm (by omega) (by omega)) (Int.le_antisymm (by omega) (by omega))) (g_ti.e j3 ((h_upg us77 rfl).trans ((funext (fun j => Gs74 100 j rfl)).trans ((h_upg us62 rfl).trans (funext (fun j => Gs61 100 j rfl)))))) (g_SH.e j4 ((h_upg us77 rfl).trans ((funext (fun j => Gs74 94 j rfl)).trans ((h_upg us62 rfl).trans (funext (fun j => Gs61 94 j rfl))))) ((h_upg us77 rfl).trans ((funext (fun j => Gs74 95 j rfl)).trans ((h_upg us62 rfl).trans (funext (fun j => Gs61 95 j rfl))))) ((h_upg us77 rfl).trans ((funext (fun j => Gs74 96 j rfl)).trans ((h_upg us62 rfl).trans (funext (fun j => Gs61 96 j rfl))))) ((h_upg us77 rfl).trans ((funext (fun j => Gs74 111 j rfl)).trans ((h_upg us62 rfl).trans (funext (fun j => Gs61 111 j rfl))))) ((h_upg us77 rfl).trans ((funext (fun j => Gs74 112 j rfl)).trans ((h_upg us62 rfl).trans (funext (fun j => Gs61 112 j rfl))))) ((h_upg us77 rfl).trans ((funext (fun j => Gs74 113 j rfl)).trans ((h_upg us62 rfl).trans (funext (fun j => Gs61 113 j rfl)))))) (Int.le_antisymm (by omega) (by omega))
      · clear hz57
        refine h_iconst (pc' := 19) (x := (Int32.ofInt 1)) rfl rfl rfl ?_
        refine h_goto (pc' := 23) rfl rfl ?_
        refine h_istore_n (pc' := 24) (M := [(2, .int (Int32.ofInt 1)), (0, .ref 9), (1, .int (Int32.ofInt 1))]) rfl rfl rfl rfl ?_
        refine h_aload_n (pc' := 25) rfl rfl rfl ?_
        refine h_iload_n (pc' := 26) rfl rfl rfl ?_
        refine h_call (sp := false) (pc' := 29) (M := [(0, .ref 9), (1, .int (Int32.ofInt 1))]) rfl rfl rfl rfl rfl rfl rfl rfl ?_
        refine h_iload_n (pc' := 1) rfl rfl rfl ?_
        refine h_zne (tg := 11) (pc' := 4) rfl rfl rfl ci_1 (fun c78 => ?_) (fun c78 => absurd c78 (by omega))
        refine h_aload_n (pc' := 12) rfl rfl rfl ?_
        refine h_getR (pc' := 15) rfl rfl rfl rfl rfl ?_
        refine h_aret rfl rfl (h_Kv ?_)
        refine h_aload_n (pc' := 30) rfl rfl rfl ?_
        refine h_getR (pc' := 33) rfl rfl rfl rfl rfl ?_
        refine h_call (sp := false) (pc' := 36) (M := [(0, .ref 49), (1, .ref 10)]) rfl rfl rfl rfl rfl rfl rfl rfl ?_
        refine n_copy_49_10 _ I0  (fun s80 Is80 Gs80 ps80_0 => h_Kn ?_)
        have Zs80 : ∀ i, s80 0 i = s0 0 i := fun i => (Gs80 0 i rfl).trans rfl
        have Fs80 : h_F (fun _ _ => true) s80 s0 := fun _ _ h => by cases h
        have es80_0 : s80 64 1 = s0 64 1 := (Gs80 64 1 rfl).trans rfl
        have es80_1 : s80 98 11 = s0 98 11 := (Gs80 98 11 rfl).trans rfl
        have es80_2 : s80 64 4 = s0 64 4 := (Gs80 64 4 rfl).trans rfl
        have es80_3 : s80 98 16 = s0 98 16 := (Gs80 98 16 rfl).trans rfl
        have es80_4 : s80 90 2 = s0 90 2 := (Gs80 90 2 rfl).trans rfl
        have es80_5 : s80 98 29 = s0 98 29 := (Gs80 98 29 rfl).trans rfl
        have es80_6 : s80 10 8 = s0 10 8 := (Gs80 10 8 rfl).trans rfl
        have es80_7 : s80 98 1 = s0 98 1 := (Gs80 98 1 rfl).trans rfl
        have es80_8 : s80 10 9 = s0 10 9 := (Gs80 10 9 rfl).trans rfl
        have es80_9 : s80 98 2 = s0 98 2 := (Gs80 98 2 rfl).trans rfl
        have es80_10 : s80 62 0 = s0 62 0 := (Gs80 62 0 rfl).trans rfl
        have es80_11 : s80 110 0 = s0 110 0 := (Gs80 110 0 rfl).trans rfl
        have es80_12 : s80 62 1 = s0 62 1 := (Gs80 62 1 rfl).trans rfl
        have es80_13 : s80 110 1 = s0 110 1 := (Gs80 110 1 rfl).trans rfl
        refine h_aload_n (pc' := 37) rfl rfl rfl ?_
        refine h_getR (pc' := 40) rfl rfl rfl rfl rfl ?_
        refine h_iload_n (pc' := 41) rfl rfl rfl ?_
        refine h_iconst (pc' := 42) (x := (Int32.ofInt 1)) rfl rfl rfl ?_
        refine h_bast (pc' := 43) rfl rfl rfl rfl ci_1 (by omega) (by omega) ci_1 (by omega) (h_fgt (E := fun s => s 64 1 = s0 64 1 ∧ s 98 11 = s0 98 11 ∧ s 64 4 = s0 64 4 ∧ s 98 16 = s0 98 16 ∧ s 90 2 = s0 90 2 ∧ s 98 29 = s0 98 29 ∧ s 10 8 = s0 10 8 ∧ s 98 1 = s0 98 1 ∧ s 10 9 = s0 10 9 ∧ s 98 2 = s0 98 2 ∧ s 62 0 = s0 62 0 ∧ s 110 0 = s0 110 0 ∧ s 62 1 = 1 ∧ s 110 1 = s0 110 1 ∧ s = h_up s80 62 1 1) _ (in_62 Is80 (by omega)) (Fs80.up rfl) ⟨es80_0, es80_1, es80_2, es80_3, es80_4, es80_5, es80_6, es80_7, es80_8, es80_9, es80_10, es80_11, rfl, es80_13, rfl⟩ (fun s81 Is81 Fs81 (es81 : s81 64 1 = s0 64 1 ∧ s81 98 11 = s0 98 11 ∧ s81 64 4 = s0 64 4 ∧ s81 98 16 = s0 98 16 ∧ s81 90 2 = s0 90 2 ∧ s81 98 29 = s0 98 29 ∧ s81 10 8 = s0 10 8 ∧ s81 98 1 = s0 98 1 ∧ s81 10 9 = s0 10 9 ∧ s81 98 2 = s0 98 2 ∧ s81 62 0 = s0 62 0 ∧ s81 110 0 = s0 110 0 ∧ s81 62 1 = 1 ∧ s81 110 1 = s0 110 1 ∧ s81 = h_up s80 62 1 1) => ?_))
        have us81 := es81.2.2.2.2.2.2.2.2.2.2.2.2.2.2
        have Zs81 : ∀ i, s81 0 i = s0 0 i := fun i => (h_upo us81 rfl i).trans (Zs80 i)
        refine h_iload_n (pc' := 44) rfl rfl rfl ?_
        refine h_iret rfl rfl (h_Kv ?_)
        refine h_pop (pc' := 1230) rfl rfl rfl ?_
        refine h_aload_n (pc' := 1231) rfl rfl rfl ?_
        refine h_aload_n (pc' := 1232) rfl rfl rfl ?_
        refine h_iload_n (pc' := 1233) rfl rfl rfl ?_
        refine h_iconst (pc' := 1234) (x := (Int32.ofInt 1)) rfl rfl rfl ?_
        refine h_iadd (pc' := 1235) rfl rfl hy3 ci_1 rfl (by omega) (by omega) (fun z82 hz82 => ?_)
        refine h_iald (pc' := 1236) (v := s0 0 (b3 + 1)) rfl rfl rfl hz82 (by omega) (by omega) (Zs81 _) (fun z83 hz83 => ?_)
        have tz83 := h_rgv hz83
        clear hz82
        refine h_call (sp := false) (pc' := 1239) (M := [(0, .ref 98), (1, .int z83)]) rfl rfl rfl rfl rfl rfl rfl rfl ?_
        refine h_iload_n (pc' := 1) rfl rfl rfl ?_
        refine h_i2l (pc' := 2) rfl rfl hz83 (fun z84 hz84 => ?_)
        refine h_lconst (pc' := 3) (x := (Int64.ofInt 0)) rfl rfl rfl ?_
        refine h_lconst (pc' := 4) (x := (Int64.ofInt 1)) rfl rfl rfl ?_
        refine h_calls (pc' := 7) (M := [(0, .long z84), (2, .long (Int64.ofInt 0)), (4, .long (Int64.ofInt 1))]) rfl rfl rfl rfl rfl rfl ?_
        refine h_lload_n (pc' := 1) rfl rfl rfl ?_
        refine h_lload_n (pc' := 2) rfl rfl rfl ?_
        refine h_lcmp (pc' := 3) rfl rfl hz84 cl_0 (fun z85 hz85 => ?_)
        refine h_zlt (tg := 17) (pc' := 6) rfl rfl rfl rfl (fun c86 => absurd c86 (by omega)) (fun c86 => ?_)
        replace c86 := (h_lcr hz85).2.1 c86
        clear hz85
        refine h_lload_n (pc' := 7) rfl rfl rfl ?_
        refine h_lload (pc' := 9) rfl rfl rfl ?_
        refine h_lcmp (pc' := 10) rfl rfl hz84 cl_1 (fun z87 hz87 => ?_)
        refine h_zgt (tg := 17) (pc' := 13) rfl rfl rfl rfl (fun c88 => absurd c88 (by omega)) (fun c88 => ?_)
        replace c88 := (h_lcr hz87).2.2.1 c88
        clear hz87
        refine h_iconst (pc' := 14) (x := (Int32.ofInt 1)) rfl rfl rfl ?_
        refine h_goto (pc' := 18) rfl rfl ?_
        refine h_zret rfl rfl ci_1 (by omega) (h_Kv ?_)
        clear hz84
        refine h_zne (tg := 12) (pc' := 10) rfl rfl rfl ci_1 (fun c89 => ?_) (fun c89 => absurd c89 (by omega))
        refine h_aload_n (pc' := 13) rfl rfl rfl ?_
        refine h_iconst (pc' := 14) (x := (Int32.ofInt 0)) rfl rfl rfl ?_
        refine h_bipush (pc' := 16) (x := (Int32.ofInt 44)) rfl rfl cb_44 ?_
        refine h_iload_n (pc' := 17) rfl rfl rfl ?_
        refine h_iconst (pc' := 18) (x := (Int32.ofInt 1)) rfl rfl rfl ?_
        refine h_iadd (pc' := 19) rfl rfl hz83 ci_1 rfl (by have g0 := h_rgv hz83; omega) (by have g0 := h_rgv hz83; omega) (fun z90 hz90 => ?_)
        refine h_imul (pc' := 20) rfl rfl ci_44 hz90 rfl (by omega) (by omega) (fun z91 hz91 => ?_)
        clear hz90
        have qz91 : z91 = (Int32.ofInt 88) := h_lit (show z91.toInt = 88 by omega) ci_88
        subst qz91
        refine h_call (sp := false) (pc' := 23) (M := [(0, .ref 98), (1, .int (Int32.ofInt 0)), (2, .int (Int32.ofInt 88))]) rfl rfl rfl rfl rfl rfl rfl rfl ?_
        refine n_copies_0_88 _ Is81   (fun s93 Is93 Gs93 ps93_0 => h_Kn ?_)
        have Zs93 : ∀ i, s93 0 i = s0 0 i := fun i => (Gs93 0 i rfl).trans (Zs81 i)
        have Fs93 : h_F (fun _ _ => true) s93 s0 := fun _ _ h => by cases h
        have es93_0 : s93 64 1 = s0 64 1 := (Gs93 64 1 rfl).trans es81.1
        have es93_1 : s93 98 11 = s0 98 11 := (Gs93 98 11 rfl).trans es81.2.1
        have es93_2 : s93 64 4 = s0 64 4 := (Gs93 64 4 rfl).trans es81.2.2.1
        have es93_3 : s93 98 16 = s0 98 16 := (Gs93 98 16 rfl).trans es81.2.2.2.1
        have es93_4 : s93 90 2 = s0 90 2 := (Gs93 90 2 rfl).trans es81.2.2.2.2.1
        have es93_5 : s93 98 29 = s0 98 29 := (Gs93 98 29 rfl).trans es81.2.2.2.2.2.1
        have es93_6 : s93 10 8 = s0 10 8 := (Gs93 10 8 rfl).trans es81.2.2.2.2.2.2.1
        have es93_7 : s93 98 1 = s0 98 1 := (Gs93 98 1 rfl).trans es81.2.2.2.2.2.2.2.1
        have es93_8 : s93 10 9 = s0 10 9 := (Gs93 10 9 rfl).trans es81.2.2.2.2.2.2.2.2.1
        have es93_9 : s93 98 2 = s0 98 2 := (Gs93 98 2 rfl).trans es81.2.2.2.2.2.2.2.2.2.1
        have es93_10 : s93 62 0 = s0 62 0 := (Gs93 62 0 rfl).trans es81.2.2.2.2.2.2.2.2.2.2.1
        have es93_11 : s93 110 0 = s0 110 0 := (Gs93 110 0 rfl).trans es81.2.2.2.2.2.2.2.2.2.2.2.1
        have es93_12 : s93 62 1 = 1 := (Gs93 62 1 rfl).trans es81.2.2.2.2.2.2.2.2.2.2.2.2.1
        have es93_13 : s93 110 1 = s0 110 1 := (Gs93 110 1 rfl).trans es81.2.2.2.2.2.2.2.2.2.2.2.2.2.1
        clear hz91
        refine h_aload_n (pc' := 24) rfl rfl rfl ?_
        refine h_getR (pc' := 27) rfl rfl rfl rfl rfl ?_
        refine h_iload_n (pc' := 28) rfl rfl rfl ?_
        have qz83 : z83 = (Int32.ofInt 1) := h_lit (show z83.toInt = 1 by omega) ci_1
        subst qz83
        refine h_bald (pc' := 29) (v := s0 110 1) rfl rfl rfl ci_1 (by omega) (by omega) es93_13 (fun z94 hz94 => ?_)
        have tz94 := ty_110 I0 1
        clear hz83
        refine h_zeq (tg := 36) (pc' := 32) rfl rfl rfl hz94 (fun c95 => absurd c95 (by omega)) (fun c95 => ?_)
        clear hz94
        refine h_iconst (pc' := 33) (x := (Int32.ofInt 1)) rfl rfl rfl ?_
        refine h_goto (pc' := 37) rfl rfl ?_
        refine h_istore_n (pc' := 38) (M := [(2, .int (Int32.ofInt 1)), (0, .ref 98), (1, .int (Int32.ofInt 1))]) rfl rfl rfl rfl ?_
        refine h_aload_n (pc' := 39) rfl rfl rfl ?_
        refine h_getR (pc' := 42) rfl rfl rfl rfl rfl ?_
        refine h_iload_n (pc' := 43) rfl rfl rfl ?_
        refine h_iconst (pc' := 44) (x := (Int32.ofInt 1)) rfl rfl rfl ?_
        refine h_bast (pc' := 45) rfl rfl rfl rfl ci_1 (by omega) (by omega) ci_1 (by omega) (h_fgt (E := fun s => s 64 1 = s0 64 1 ∧ s 98 11 = s0 98 11 ∧ s 64 4 = s0 64 4 ∧ s 98 16 = s0 98 16 ∧ s 90 2 = s0 90 2 ∧ s 98 29 = s0 98 29 ∧ s 10 8 = s0 10 8 ∧ s 98 1 = s0 98 1 ∧ s 10 9 = s0 10 9 ∧ s 98 2 = s0 98 2 ∧ s 62 0 = s0 62 0 ∧ s 110 0 = s0 110 0 ∧ s 62 1 = 1 ∧ s 110 1 = 1 ∧ s = h_up s93 110 1 1) _ (in_110 Is93 (by omega)) (Fs93.up rfl) ⟨es93_0, es93_1, es93_2, es93_3, es93_4, es93_5, es93_6, es93_7, es93_8, es93_9, es93_10, es93_11, es93_12, rfl, rfl⟩ (fun s96 Is96 Fs96 (es96 : s96 64 1 = s0 64 1 ∧ s96 98 11 = s0 98 11 ∧ s96 64 4 = s0 64 4 ∧ s96 98 16 = s0 98 16 ∧ s96 90 2 = s0 90 2 ∧ s96 98 29 = s0 98 29 ∧ s96 10 8 = s0 10 8 ∧ s96 98 1 = s0 98 1 ∧ s96 10 9 = s0 10 9 ∧ s96 98 2 = s0 98 2 ∧ s96 62 0 = s0 62 0 ∧ s96 110 0 = s0 110 0 ∧ s96 62 1 = 1 ∧ s96 110 1 = 1 ∧ s96 = h_up s93 110 1 1) => ?_))
        have us96 := es96.2.2.2.2.2.2.2.2.2.2.2.2.2.2
        have Zs96 : ∀ i, s96 0 i = s0 0 i := fun i => (h_upo us96 rfl i).trans (Zs93 i)
        refine h_iload_n (pc' := 46) rfl rfl rfl ?_
        refine h_iret rfl rfl (h_Kv ?_)
        refine h_pop (pc' := 1240) rfl rfl rfl ?_
        refine h_goto (pc' := 1441) rfl rfl ?_
        exact kk _ Is96 (by first | exact d_tape.le j0 (Int.le_antisymm (by omega) (by omega)) (by omega) (fun j => (h_upo us96 rfl j).trans ((Gs93 65 j rfl).trans ((h_upo us81 rfl j).trans ((Gs80 65 j rfl))))) (fun j => (h_upo us96 rfl j).trans ((Gs93 102 j rfl).trans ((h_upo us81 rfl j).trans ((Gs80 102 j rfl))))) | (exfalso; omega)) (Int.le_antisymm (by omega) (by omega)) (c_R.keep1 j2 I0 (Int.le_antisymm (by omega) (by omega)) (Int.le_antisymm (by omega) (by omega)) ((c_eq.up us96 rfl).tr ((c_eq.fr (fl := true) Gs93 rfl).tr ((c_eq.up us81 rfl).tr (c_eq.fr (fl := true) Gs80 rfl)))) ((c_eq.up us96 rfl).tr ((c_eq.fr (fl := true) Gs93 rfl).tr ((c_eq.up us81 rfl).tr (c_eq.fr (fl := true) Gs80 rfl)))) (((c_eq.up us96 rfl).tr ((c_eq.fr (fl := true) Gs93 rfl).tr (c_eq.up us81 rfl))).tr (ps80_0.wk.tr c_eq.rf)) ((((c_pg.fr (fl := true) (o := 0) Gs80 rfl).tr (c_pg.all (fun j _ _ => h_upo us81 rfl _))).tr (c_pg.fr (fl := true) (o := 0) Gs93 rfl)).tr (c_pg.all (fun j _ _ => h_upo us96 rfl _))) ((((c_pg.fr (fl := true) (o := 44) Gs80 rfl).tr (c_pg.all (fun j _ _ => h_upo us81 rfl _))).tr (c_pg.fr (fl := true) (o := 44) Gs93 rfl)).tr (c_pg.all (fun j _ _ => h_upo us96 rfl _))) (fun j a b => (((h_upo us96 rfl _)).trans (ps93_0 j a b)).trans ((h_upo us81 rfl _).trans ((Gs80.no (q := 99) (l := 0) (u := 43) (j := 0 + j) rfl (by omega) (by omega))))) (Int.le_antisymm (by omega) (by omega)) (Int.le_antisymm (by omega) (by omega)) (Int.le_antisymm (by omega) (by omega)) (Int.le_antisymm (by omega) (by omega))) (g_ti.e j3 ((h_upg us96 rfl).trans ((funext (fun j => Gs93 100 j rfl)).trans ((h_upg us81 rfl).trans (funext (fun j => Gs80 100 j rfl)))))) (g_SH.e j4 ((h_upg us96 rfl).trans ((funext (fun j => Gs93 94 j rfl)).trans ((h_upg us81 rfl).trans (funext (fun j => Gs80 94 j rfl))))) ((h_upg us96 rfl).trans ((funext (fun j => Gs93 95 j rfl)).trans ((h_upg us81 rfl).trans (funext (fun j => Gs80 95 j rfl))))) ((h_upg us96 rfl).trans ((funext (fun j => Gs93 96 j rfl)).trans ((h_upg us81 rfl).trans (funext (fun j => Gs80 96 j rfl))))) ((h_upg us96 rfl).trans ((funext (fun j => Gs93 111 j rfl)).trans ((h_upg us81 rfl).trans (funext (fun j => Gs80 111 j rfl))))) ((h_upg us96 rfl).trans ((funext (fun j => Gs93 112 j rfl)).trans ((h_upg us81 rfl).trans (funext (fun j => Gs80 112 j rfl))))) ((h_upg us96 rfl).trans ((funext (fun j => Gs93 113 j rfl)).trans ((h_upg us81 rfl).trans (funext (fun j => Gs80 113 j rfl)))))) (Int.le_antisymm (by omega) (by omega))
