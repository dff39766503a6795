set_option maxHeartbeats 100000000 in
theorem g_case_1266 {ns : Nat} (hns : ns ≤ 320) (s0 : h_S) (I0 : h_I s0) (j0 : d_tape s0 s0) (j1 : s0 64 4 = s0 98 16) (j2 : c_R true s0) (j3 : g_ti s0) (j4 : g_SH s0) (j5 : s0 90 2 = s0 98 29) (y3 : Int32) (b3 : Int) (hy3 : y3.toInt = b3) (hr : 0 ≤ b3 ∧ b3 + 5 ≤ ns) {Q : Option Value → h_S → Prop} (kk : ∀ τ, h_I τ → (d_tape τ τ) → (τ 64 4 = τ 98 16) → (c_R true τ) → (g_ti τ) → (g_SH τ) → (τ 90 2 = τ 98 29) → h_T g_P (g_Y ns) 225 1441 [(0, .ref 0), (1, .ref 9), (2, .ref 98), (3, .int y3)] [] τ Q) : h_T g_P (g_Y ns) 225 1266 [(0, .ref 0), (1, .ref 9), (2, .ref 98), (3, .int y3)] [] s0 Q := by
  have F0_ : h_F (fun _ _ => true) s0 s0 := h_F.rf
  have j0_ := j0.2
  have i0 := tf_64_1 I0
  have i1 := tf_98_11 I0
  have i2 := tf_64_4 I0
  have i3 := tf_98_16 I0
  have i4 := tf_90_2 I0
  have i5 := tf_98_29 I0
  refine h_aload_n (pc' := 1267) rfl rfl rfl ?_
  refine h_aload_n (pc' := 1268) rfl rfl rfl ?_
  refine h_iload_n (pc' := 1269) rfl rfl rfl ?_
  refine h_iconst (pc' := 1270) (x := (Int32.ofInt 1)) rfl rfl rfl ?_
  refine h_iadd (pc' := 1271) rfl rfl hy3 ci_1 rfl (by omega) (by omega) (fun z1 hz1 => ?_)
  refine h_iald (pc' := 1272) (v := s0 0 (b3 + 1)) rfl rfl rfl hz1 (by omega) (by omega) rfl (fun z2 hz2 => ?_)
  have tz2 := h_rgv hz2
  clear hz1
  refine h_aload_n (pc' := 1273) rfl rfl rfl ?_
  refine h_iload_n (pc' := 1274) rfl rfl rfl ?_
  refine h_iconst (pc' := 1275) (x := (Int32.ofInt 2)) rfl rfl rfl ?_
  refine h_iadd (pc' := 1276) rfl rfl hy3 ci_2 rfl (by omega) (by omega) (fun z3 hz3 => ?_)
  refine h_iald (pc' := 1277) (v := s0 0 (b3 + 2)) rfl rfl rfl hz3 (by omega) (by omega) rfl (fun z4 hz4 => ?_)
  have tz4 := h_rgv hz4
  clear hz3
  refine h_aload_n (pc' := 1278) rfl rfl rfl ?_
  refine h_iload_n (pc' := 1279) rfl rfl rfl ?_
  refine h_iconst (pc' := 1280) (x := (Int32.ofInt 3)) rfl rfl rfl ?_
  refine h_iadd (pc' := 1281) rfl rfl hy3 ci_3 rfl (by omega) (by omega) (fun z5 hz5 => ?_)
  refine h_iald (pc' := 1282) (v := s0 0 (b3 + 3)) rfl rfl rfl hz5 (by omega) (by omega) rfl (fun z6 hz6 => ?_)
  have tz6 := h_rgv hz6
  clear hz5
  refine h_call (sp := false) (pc' := 1285) (M := [(0, .ref 9), (1, .int z2), (2, .int z4), (3, .int z6)]) rfl rfl rfl rfl rfl rfl rfl rfl ?_
  refine h_iload_n (pc' := 1) rfl rfl rfl ?_
  refine h_calls (pc' := 4) (M := [(0, .int z2)]) rfl rfl rfl rfl rfl rfl ?_
  refine h_iload_n (pc' := 1) rfl rfl rfl ?_
  refine h_zlt (tg := 13) (pc' := 4) rfl rfl rfl hz2 (fun c7 => ?_) (fun c7 => ?_)
  · refine h_iconst (pc' := 14) (x := (Int32.ofInt 0)) rfl rfl rfl ?_
    refine h_zret rfl rfl ci_0 (by omega) (h_Kv ?_)
    refine h_zeq (tg := 20) (pc' := 7) rfl rfl rfl ci_0 (fun c8 => ?_) (fun c8 => absurd (Int.le_antisymm (by omega) (by omega)) c8)
    refine h_iconst (pc' := 21) (x := (Int32.ofInt (-1))) rfl rfl rfl ?_
    refine h_iret rfl rfl (h_Kv ?_)
    clear hz2 hz4 hz6
    refine h_pop (pc' := 1286) rfl rfl rfl ?_
    refine h_aload_n (pc' := 1287) rfl rfl rfl ?_
    refine h_aload_n (pc' := 1288) rfl rfl rfl ?_
    refine h_iload_n (pc' := 1289) rfl rfl rfl ?_
    refine h_iconst (pc' := 1290) (x := (Int32.ofInt 1)) rfl rfl rfl ?_
    refine h_iadd (pc' := 1291) rfl rfl hy3 ci_1 rfl (by omega) (by omega) (fun z9 hz9 => ?_)
    refine h_iald (pc' := 1292) (v := s0 0 (b3 + 1)) rfl rfl rfl hz9 (by omega) (by omega) rfl (fun z10 hz10 => ?_)
    have tz10 := h_rgv hz10
    clear hz9
    refine h_aload_n (pc' := 1293) rfl rfl rfl ?_
    refine h_iload_n (pc' := 1294) rfl rfl rfl ?_
    refine h_iconst (pc' := 1295) (x := (Int32.ofInt 2)) rfl rfl rfl ?_
    refine h_iadd (pc' := 1296) rfl rfl hy3 ci_2 rfl (by omega) (by omega) (fun z11 hz11 => ?_)
    refine h_iald (pc' := 1297) (v := s0 0 (b3 + 2)) rfl rfl rfl hz11 (by omega) (by omega) rfl (fun z12 hz12 => ?_)
    have tz12 := h_rgv hz12
    clear hz11
    refine h_aload_n (pc' := 1298) rfl rfl rfl ?_
    refine h_iload_n (pc' := 1299) rfl rfl rfl ?_
    refine h_iconst (pc' := 1300) (x := (Int32.ofInt 3)) rfl rfl rfl ?_
    refine h_iadd (pc' := 1301) rfl rfl hy3 ci_3 rfl (by omega) (by omega) (fun z13 hz13 => ?_)
    refine h_iald (pc' := 1302) (v := s0 0 (b3 + 3)) rfl rfl rfl hz13 (by omega) (by omega) rfl (fun z14 hz14 => ?_)
    have tz14 := h_rgv hz14
    clear hz13
    refine h_call (sp := false) (pc' := 1305) (M := [(0, .ref 98), (1, .int z10), (2, .int z12), (3, .int z14)]) rfl rfl rfl rfl rfl rfl rfl rfl ?_
    refine n_sheM _ I0 z10 _ hz10 z12 _ hz12 z14 _ hz14 (fun r15 br15 hr15 s16 Is16 Gs16 tr15 ps16_0 => h_Kv ?_)
    have Zs16 : ∀ i, s16 0 i = s0 0 i := fun i => (Gs16 0 i rfl).trans rfl
    have Fs16 : h_F (fun _ _ => true) s16 s0 := fun _ _ h => by cases h
    have es16_0 : s16 64 1 = s0 64 1 := (Gs16 64 1 rfl).trans rfl
    have es16_1 : s16 98 11 = s0 98 11 := (Gs16 98 11 rfl).trans rfl
    have es16_2 : s16 64 4 = s0 64 4 := (Gs16 64 4 rfl).trans rfl
    have es16_3 : s16 98 16 = s0 98 16 := (Gs16 98 16 rfl).trans rfl
    have es16_4 : s16 90 2 = s0 90 2 := (Gs16 90 2 rfl).trans rfl
    have es16_5 : s16 98 29 = s0 98 29 := (Gs16 98 29 rfl).trans rfl
    clear hz10 hz12 hz14
    refine h_pop (pc' := 1306) rfl rfl rfl ?_
    clear hr15
    refine h_goto (pc' := 1441) rfl rfl ?_
    exact kk _ Is16 (by first | exact d_tape.le j0 (Int.le_antisymm (by omega) (by omega)) (by omega) (fun j => (Gs16 65 j rfl)) (fun j => (Gs16 102 j rfl)) | (exfalso; omega)) (Int.le_antisymm (by omega) (by omega)) (c_R.fr j2 I0 Gs16 rfl) (g_ti.e j3 (funext (fun j => Gs16 100 j rfl))) (by rcases ps16_0 with q | q | q; (exact g_SH.e j4 (funext (fun j => Gs16 94 j rfl)) (funext (fun j => Gs16 95 j rfl)) (funext (fun j => Gs16 96 j rfl)) (rfl.trans (q.2.2.1.trans rfl)) (rfl.trans (q.2.2.2.1.trans rfl)) (rfl.trans (q.2.2.2.2.trans rfl))); (exact g_SH.e j4 (funext (fun j => Gs16 94 j rfl)) (funext (fun j => Gs16 95 j rfl)) (funext (fun j => Gs16 96 j rfl)) (rfl.trans (q.2.2.1.trans rfl)) (rfl.trans (q.2.2.2.1.trans rfl)) (rfl.trans (q.2.2.2.2.trans rfl))); (exfalso; omega)) (Int.le_antisymm (by omega) (by omega))
  · refine h_iload_n (pc' := 5) rfl rfl rfl ?_
    refine h_iconst (pc' := 6) (x := (Int32.ofInt 4)) rfl rfl rfl ?_
    refine h_cge (tg := 13) (pc' := 9) rfl rfl rfl hz2 ci_4 (fun c17 => ?_) (fun c17 => ?_)
    · refine h_iconst (pc' := 14) (x := (Int32.ofInt 0)) rfl rfl rfl ?_
      refine h_zret rfl rfl ci_0 (by omega) (h_Kv ?_)
      refine h_zeq (tg := 20) (pc' := 7) rfl rfl rfl ci_0 (fun c18 => ?_) (fun c18 => absurd (Int.le_antisymm (by omega) (by omega)) c18)
      refine h_iconst (pc' := 21) (x := (Int32.ofInt (-1))) rfl rfl rfl ?_
      refine h_iret rfl rfl (h_Kv ?_)
      clear hz2 hz4 hz6
      refine h_pop (pc' := 1286) rfl rfl rfl ?_
      refine h_aload_n (pc' := 1287) rfl rfl rfl ?_
      refine h_aload_n (pc' := 1288) rfl rfl rfl ?_
      refine h_iload_n (pc' := 1289) rfl rfl rfl ?_
      refine h_iconst (pc' := 1290) (x := (Int32.ofInt 1)) rfl rfl rfl ?_
      refine h_iadd (pc' := 1291) rfl rfl hy3 ci_1 rfl (by omega) (by omega) (fun z19 hz19 => ?_)
      refine h_iald (pc' := 1292) (v := s0 0 (b3 + 1)) rfl rfl rfl hz19 (by omega) (by omega) rfl (fun z20 hz20 => ?_)
      have tz20 := h_rgv hz20
      clear hz19
      refine h_aload_n (pc' := 1293) rfl rfl rfl ?_
      refine h_iload_n (pc' := 1294) rfl rfl rfl ?_
      refine h_iconst (pc' := 1295) (x := (Int32.ofInt 2)) rfl rfl rfl ?_
      refine h_iadd (pc' := 1296) rfl rfl hy3 ci_2 rfl (by omega) (by omega) (fun z21 hz21 => ?_)
      refine h_iald (pc' := 1297) (v := s0 0 (b3 + 2)) rfl rfl rfl hz21 (by omega) (by omega) rfl (fun z22 hz22 => ?_)
      have tz22 := h_rgv hz22
      clear hz21
      refine h_aload_n (pc' := 1298) rfl rfl rfl ?_
      refine h_iload_n (pc' := 1299) rfl rfl rfl ?_
      refine h_iconst (pc' := 1300) (x := (Int32.ofInt 3)) rfl rfl rfl ?_
      refine h_iadd (pc' := 1301) rfl rfl hy3 ci_3 rfl (by omega) (by omega) (fun z23 hz23 => ?_)
      refine h_iald (pc' := 1302) (v := s0 0 (b3 + 3)) rfl rfl rfl hz23 (by omega) (by omega) rfl (fun z24 hz24 => ?_)
      have tz24 := h_rgv hz24
      clear hz23
      refine h_call (sp := false) (pc' := 1305) (M := [(0, .ref 98), (1, .int z20), (2, .int z22), (3, .int z24)]) rfl rfl rfl rfl rfl rfl rfl rfl ?_
      refine n_sheM _ I0 z20 _ hz20 z22 _ hz22 z24 _ hz24 (fun r25 br25 hr25 s26 Is26 Gs26 tr25 ps26_0 => h_Kv ?_)
      have Zs26 : ∀ i, s26 0 i = s0 0 i := fun i => (Gs26 0 i rfl).trans rfl
      have Fs26 : h_F (fun _ _ => true) s26 s0 := fun _ _ h => by cases h
      have es26_0 : s26 64 1 = s0 64 1 := (Gs26 64 1 rfl).trans rfl
      have es26_1 : s26 98 11 = s0 98 11 := (Gs26 98 11 rfl).trans rfl
      have es26_2 : s26 64 4 = s0 64 4 := (Gs26 64 4 rfl).trans rfl
      have es26_3 : s26 98 16 = s0 98 16 := (Gs26 98 16 rfl).trans rfl
      have es26_4 : s26 90 2 = s0 90 2 := (Gs26 90 2 rfl).trans rfl
      have es26_5 : s26 98 29 = s0 98 29 := (Gs26 98 29 rfl).trans rfl
      clear hz20 hz22 hz24
      refine h_pop (pc' := 1306) rfl rfl rfl ?_
      clear hr25
      refine h_goto (pc' := 1441) rfl rfl ?_
      exact kk _ Is26 (by first | exact d_tape.le j0 (Int.le_antisymm (by omega) (by omega)) (by omega) (fun j => (Gs26 65 j rfl)) (fun j => (Gs26 102 j rfl)) | (exfalso; omega)) (Int.le_antisymm (by omega) (by omega)) (c_R.fr j2 I0 Gs26 rfl) (g_ti.e j3 (funext (fun j => Gs26 100 j rfl))) (by rcases ps26_0 with q | q | q; (exact g_SH.e j4 (funext (fun j => Gs26 94 j rfl)) (funext (fun j => Gs26 95 j rfl)) (funext (fun j => Gs26 96 j rfl)) (rfl.trans (q.2.2.1.trans rfl)) (rfl.trans (q.2.2.2.1.trans rfl)) (rfl.trans (q.2.2.2.2.trans rfl))); (exact g_SH.e j4 (funext (fun j => Gs26 94 j rfl)) (funext (fun j => Gs26 95 j rfl)) (funext (fun j => Gs26 96 j rfl)) (rfl.trans (q.2.2.1.trans rfl)) (rfl.trans (q.2.2.2.1.trans rfl)) (rfl.trans (q.2.2.2.2.trans rfl))); (exfalso; omega)) (Int.le_antisymm (by omega) (by omega))
    · refine h_iconst (pc' := 10) (x := (Int32.ofInt 1)) rfl rfl rfl ?_
      refine h_goto (pc' := 14) rfl rfl ?_
      refine h_zret rfl rfl ci_1 (by omega) (h_Kv ?_)
      refine h_zeq (tg := 20) (pc' := 7) rfl rfl rfl ci_1 (fun c27 => absurd c27 (by omega)) (fun c27 => ?_)
      refine h_iload_n (pc' := 8) rfl rfl rfl ?_
      refine h_calls (pc' := 11) (M := [(0, .int z4)]) rfl rfl rfl rfl rfl rfl ?_
      refine h_iload_n (pc' := 1) rfl rfl rfl ?_
      refine h_zlt (tg := 13) (pc' := 4) rfl rfl rfl hz4 (fun c28 => ?_) (fun c28 => ?_)
      · refine h_iconst (pc' := 14) (x := (Int32.ofInt 0)) rfl rfl rfl ?_
        refine h_zret rfl rfl ci_0 (by omega) (h_Kv ?_)
        refine h_zeq (tg := 20) (pc' := 14) rfl rfl rfl ci_0 (fun c29 => ?_) (fun c29 => absurd (Int.le_antisymm (by omega) (by omega)) c29)
        refine h_iconst (pc' := 21) (x := (Int32.ofInt (-1))) rfl rfl rfl ?_
        refine h_iret rfl rfl (h_Kv ?_)
        clear hz2 hz4 hz6
        refine h_pop (pc' := 1286) rfl rfl rfl ?_
        refine h_aload_n (pc' := 1287) rfl rfl rfl ?_
        refine h_aload_n (pc' := 1288) rfl rfl rfl ?_
        refine h_iload_n (pc' := 1289) rfl rfl rfl ?_
        refine h_iconst (pc' := 1290) (x := (Int32.ofInt 1)) rfl rfl rfl ?_
        refine h_iadd (pc' := 1291) rfl rfl hy3 ci_1 rfl (by omega) (by omega) (fun z30 hz30 => ?_)
        refine h_iald (pc' := 1292) (v := s0 0 (b3 + 1)) rfl rfl rfl hz30 (by omega) (by omega) rfl (fun z31 hz31 => ?_)
        have tz31 := h_rgv hz31
        clear hz30
        refine h_aload_n (pc' := 1293) rfl rfl rfl ?_
        refine h_iload_n (pc' := 1294) rfl rfl rfl ?_
        refine h_iconst (pc' := 1295) (x := (Int32.ofInt 2)) rfl rfl rfl ?_
        refine h_iadd (pc' := 1296) rfl rfl hy3 ci_2 rfl (by omega) (by omega) (fun z32 hz32 => ?_)
        refine h_iald (pc' := 1297) (v := s0 0 (b3 + 2)) rfl rfl rfl hz32 (by omega) (by omega) rfl (fun z33 hz33 => ?_)
        have tz33 := h_rgv hz33
        clear hz32
        refine h_aload_n (pc' := 1298) rfl rfl rfl ?_
        refine h_iload_n (pc' := 1299) rfl rfl rfl ?_
        refine h_iconst (pc' := 1300) (x := (Int32.ofInt 3)) rfl rfl rfl ?_
        refine h_iadd (pc' := 1301) rfl rfl hy3 ci_3 rfl (by omega) (by omega) (fun z34 hz34 => ?_)
        refine h_iald (pc' := 1302) (v := s0 0 (b3 + 3)) rfl rfl rfl hz34 (by omega) (by omega) rfl (fun z35 hz35 => ?_)
        have tz35 := h_rgv hz35
        clear hz34
        refine h_call (sp := false) (pc' := 1305) (M := [(0, .ref 98), (1, .int z31), (2, .int z33), (3, .int z35)]) rfl rfl rfl rfl rfl rfl rfl rfl ?_
        refine n_sheM _ I0 z31 _ hz31 z33 _ hz33 z35 _ hz35 (fun r36 br36 hr36 s37 Is37 Gs37 tr36 ps37_0 => h_Kv ?_)
        have Zs37 : ∀ i, s37 0 i = s0 0 i := fun i => (Gs37 0 i rfl).trans rfl
        have Fs37 : h_F (fun _ _ => true) s37 s0 := fun _ _ h => by cases h
        have es37_0 : s37 64 1 = s0 64 1 := (Gs37 64 1 rfl).trans rfl
        have es37_1 : s37 98 11 = s0 98 11 := (Gs37 98 11 rfl).trans rfl
        have es37_2 : s37 64 4 = s0 64 4 := (Gs37 64 4 rfl).trans rfl
        have es37_3 : s37 98 16 = s0 98 16 := (Gs37 98 16 rfl).trans rfl
        have es37_4 : s37 90 2 = s0 90 2 := (Gs37 90 2 rfl).trans rfl
        have es37_5 : s37 98 29 = s0 98 29 := (Gs37 98 29 rfl).trans rfl
        clear hz31 hz33 hz35
        refine h_pop (pc' := 1306) rfl rfl rfl ?_
        clear hr36
        refine h_goto (pc' := 1441) rfl rfl ?_
        exact kk _ Is37 (by first | exact d_tape.le j0 (Int.le_antisymm (by omega) (by omega)) (by omega) (fun j => (Gs37 65 j rfl)) (fun j => (Gs37 102 j rfl)) | (exfalso; omega)) (Int.le_antisymm (by omega) (by omega)) (c_R.fr j2 I0 Gs37 rfl) (g_ti.e j3 (funext (fun j => Gs37 100 j rfl))) (by rcases ps37_0 with q | q | q; (exact g_SH.e j4 (funext (fun j => Gs37 94 j rfl)) (funext (fun j => Gs37 95 j rfl)) (funext (fun j => Gs37 96 j rfl)) (rfl.trans (q.2.2.1.trans rfl)) (rfl.trans (q.2.2.2.1.trans rfl)) (rfl.trans (q.2.2.2.2.trans rfl))); (exact g_SH.e j4 (funext (fun j => Gs37 94 j rfl)) (funext (fun j => Gs37 95 j rfl)) (funext (fun j => Gs37 96 j rfl)) (rfl.trans (q.2.2.1.trans rfl)) (rfl.trans (q.2.2.2.1.trans rfl)) (rfl.trans (q.2.2.2.2.trans rfl))); (exfalso; omega)) (Int.le_antisymm (by omega) (by omega))
      · refine h_iload_n (pc' := 5) rfl rfl rfl ?_
        refine h_iconst (pc' := 6) (x := (Int32.ofInt 2)) rfl rfl rfl ?_
        refine h_cgt (tg := 13) (pc' := 9) rfl rfl rfl hz4 ci_2 (fun c38 => ?_) (fun c38 => ?_)
        · refine h_iconst (pc' := 14) (x := (Int32.ofInt 0)) rfl rfl rfl ?_
          refine h_zret rfl rfl ci_0 (by omega) (h_Kv ?_)
          refine h_zeq (tg := 20) (pc' := 14) rfl rfl rfl ci_0 (fun c39 => ?_) (fun c39 => absurd (Int.le_antisymm (by omega) (by omega)) c39)
          refine h_iconst (pc' := 21) (x := (Int32.ofInt (-1))) rfl rfl rfl ?_
          refine h_iret rfl rfl (h_Kv ?_)
          clear hz2 hz4 hz6
          refine h_pop (pc' := 1286) rfl rfl rfl ?_
          refine h_aload_n (pc' := 1287) rfl rfl rfl ?_
          refine h_aload_n (pc' := 1288) rfl rfl rfl ?_
          refine h_iload_n (pc' := 1289) rfl rfl rfl ?_
          refine h_iconst (pc' := 1290) (x := (Int32.ofInt 1)) rfl rfl rfl ?_
          refine h_iadd (pc' := 1291) rfl rfl hy3 ci_1 rfl (by omega) (by omega) (fun z40 hz40 => ?_)
          refine h_iald (pc' := 1292) (v := s0 0 (b3 + 1)) rfl rfl rfl hz40 (by omega) (by omega) rfl (fun z41 hz41 => ?_)
          have tz41 := h_rgv hz41
          clear hz40
          refine h_aload_n (pc' := 1293) rfl rfl rfl ?_
          refine h_iload_n (pc' := 1294) rfl rfl rfl ?_
          refine h_iconst (pc' := 1295) (x := (Int32.ofInt 2)) rfl rfl rfl ?_
          refine h_iadd (pc' := 1296) rfl rfl hy3 ci_2 rfl (by omega) (by omega) (fun z42 hz42 => ?_)
          refine h_iald (pc' := 1297) (v := s0 0 (b3 + 2)) rfl rfl rfl hz42 (by omega) (by omega) rfl (fun z43 hz43 => ?_)
          have tz43 := h_rgv hz43
          clear hz42
          refine h_aload_n (pc' := 1298) rfl rfl rfl ?_
          refine h_iload_n (pc' := 1299) rfl rfl rfl ?_
          refine h_iconst (pc' := 1300) (x := (Int32.ofInt 3)) rfl rfl rfl ?_
          refine h_iadd (pc' := 1301) rfl rfl hy3 ci_3 rfl (by omega) (by omega) (fun z44 hz44 => ?_)
          refine h_iald (pc' := 1302) (v := s0 0 (b3 + 3)) rfl rfl rfl hz44 (by omega) (by omega) rfl (fun z45 hz45 => ?_)
          have tz45 := h_rgv hz45
          clear hz44
          refine h_call (sp := false) (pc' := 1305) (M := [(0, .ref 98), (1, .int z41), (2, .int z43), (3, .int z45)]) rfl rfl rfl rfl rfl rfl rfl rfl ?_
          refine n_sheM _ I0 z41 _ hz41 z43 _ hz43 z45 _ hz45 (fun r46 br46 hr46 s47 Is47 Gs47 tr46 ps47_0 => h_Kv ?_)
          have Zs47 : ∀ i, s47 0 i = s0 0 i := fun i => (Gs47 0 i rfl).trans rfl
          have Fs47 : h_F (fun _ _ => true) s47 s0 := fun _ _ h => by cases h
          have es47_0 : s47 64 1 = s0 64 1 := (Gs47 64 1 rfl).trans rfl
          have es47_1 : s47 98 11 = s0 98 11 := (Gs47 98 11 rfl).trans rfl
          have es47_2 : s47 64 4 = s0 64 4 := (Gs47 64 4 rfl).trans rfl
          have es47_3 : s47 98 16 = s0 98 16 := (Gs47 98 16 rfl).trans rfl
          have es47_4 : s47 90 2 = s0 90 2 := (Gs47 90 2 rfl).trans rfl
          have es47_5 : s47 98 29 = s0 98 29 := (Gs47 98 29 rfl).trans rfl
          clear hz41 hz43 hz45
          refine h_pop (pc' := 1306) rfl rfl rfl ?_
          clear hr46
          refine h_goto (pc' := 1441) rfl rfl ?_
          exact kk _ Is47 (by first | exact d_tape.le j0 (Int.le_antisymm (by omega) (by omega)) (by omega) (fun j => (Gs47 65 j rfl)) (fun j => (Gs47 102 j rfl)) | (exfalso; omega)) (Int.le_antisymm (by omega) (by omega)) (c_R.fr j2 I0 Gs47 rfl) (g_ti.e j3 (funext (fun j => Gs47 100 j rfl))) (by rcases ps47_0 with q | q | q; (exact g_SH.e j4 (funext (fun j => Gs47 94 j rfl)) (funext (fun j => Gs47 95 j rfl)) (funext (fun j => Gs47 96 j rfl)) (rfl.trans (q.2.2.1.trans rfl)) (rfl.trans (q.2.2.2.1.trans rfl)) (rfl.trans (q.2.2.2.2.trans rfl))); (exact g_SH.e j4 (funext (fun j => Gs47 94 j rfl)) (funext (fun j => Gs47 95 j rfl)) (funext (fun j => Gs47 96 j rfl)) (rfl.trans (q.2.2.1.trans rfl)) (rfl.trans (q.2.2.2.1.trans rfl)) (rfl.trans (q.2.2.2.2.trans rfl))); (exfalso; omega)) (Int.le_antisymm (by omega) (by omega))
        · refine h_iconst (pc' := 10) (x := (Int32.ofInt 1)) rfl rfl rfl ?_
          refine h_goto (pc' := 14) rfl rfl ?_
          refine h_zret rfl rfl ci_1 (by omega) (h_Kv ?_)
          refine h_zeq (tg := 20) (pc' := 14) rfl rfl rfl ci_1 (fun c48 => absurd c48 (by omega)) (fun c48 => ?_)
          refine h_iload_n (pc' := 15) rfl rfl rfl ?_
          refine h_bipush (pc' := 17) (x := (Int32.ofInt 40)) rfl rfl cb_40 ?_
          refine h_cle (tg := 22) (pc' := 20) rfl rfl rfl hz6 ci_40 (fun c49 => ?_) (fun c49 => ?_)
          · refine h_iload_n (pc' := 23) rfl rfl rfl ?_
            refine h_zge (tg := 29) (pc' := 26) rfl rfl rfl hz6 (fun c50 => ?_) (fun c50 => ?_)
            · refine h_aload_n (pc' := 30) rfl rfl rfl ?_
              refine h_getR (pc' := 33) rfl rfl rfl rfl rfl ?_
              refine h_iload_n (pc' := 34) rfl rfl rfl ?_
              refine h_iload_n (pc' := 35) rfl rfl rfl ?_
              refine h_iload_n (pc' := 36) rfl rfl rfl ?_
              refine h_call (sp := false) (pc' := 39) (M := [(0, .ref 93), (1, .int z2), (2, .int z4), (3, .int z6)]) rfl rfl rfl rfl rfl rfl rfl rfl ?_
              refine n_renew _ I0 z2 _ hz2 (by omega) z4 _ hz4 (by omega) z6 _ hz6 (by omega) (fun s52 Is52 Gs52 ps52_0 ps52_1 ps52_2 => h_Kn ?_)
              have Zs52 : ∀ i, s52 0 i = s0 0 i := fun i => (Gs52 0 i rfl).trans rfl
              have Fs52 : h_F (fun _ _ => true) s52 s0 := fun _ _ h => by cases h
              have es52_0 : s52 64 1 = s0 64 1 := (Gs52 64 1 rfl).trans rfl
              have es52_1 : s52 98 11 = s0 98 11 := (Gs52 98 11 rfl).trans rfl
              have es52_2 : s52 64 4 = s0 64 4 := (Gs52 64 4 rfl).trans rfl
              have es52_3 : s52 98 16 = s0 98 16 := (Gs52 98 16 rfl).trans rfl
              have es52_4 : s52 90 2 = s0 90 2 := (Gs52 90 2 rfl).trans rfl
              have es52_5 : s52 98 29 = s0 98 29 := (Gs52 98 29 rfl).trans rfl
              refine h_iconst (pc' := 40) (x := (Int32.ofInt 1)) rfl rfl rfl ?_
              refine h_iret rfl rfl (h_Kv ?_)
              clear hz2 hz4 hz6
              refine h_pop (pc' := 1286) rfl rfl rfl ?_
              refine h_aload_n (pc' := 1287) rfl rfl rfl ?_
              refine h_aload_n (pc' := 1288) rfl rfl rfl ?_
              refine h_iload_n (pc' := 1289) rfl rfl rfl ?_
              refine h_iconst (pc' := 1290) (x := (Int32.ofInt 1)) rfl rfl rfl ?_
              refine h_iadd (pc' := 1291) rfl rfl hy3 ci_1 rfl (by omega) (by omega) (fun z53 hz53 => ?_)
              refine h_iald (pc' := 1292) (v := s0 0 (b3 + 1)) rfl rfl rfl hz53 (by omega) (by omega) (Zs52 _) (fun z54 hz54 => ?_)
              have tz54 := h_rgv hz54
              clear hz53
              refine h_aload_n (pc' := 1293) rfl rfl rfl ?_
              refine h_iload_n (pc' := 1294) rfl rfl rfl ?_
              refine h_iconst (pc' := 1295) (x := (Int32.ofInt 2)) rfl rfl rfl ?_
              refine h_iadd (pc' := 1296) rfl rfl hy3 ci_2 rfl (by omega) (by omega) (fun z55 hz55 => ?_)
              refine h_iald (pc' := 1297) (v := s0 0 (b3 + 2)) rfl rfl rfl hz55 (by omega) (by omega) (Zs52 _) (fun z56 hz56 => ?_)
              have tz56 := h_rgv hz56
              clear hz55
              refine h_aload_n (pc' := 1298) rfl rfl rfl ?_
              refine h_iload_n (pc' := 1299) rfl rfl rfl ?_
              refine h_iconst (pc' := 1300) (x := (Int32.ofInt 3)) rfl rfl rfl ?_
              refine h_iadd (pc' := 1301) rfl rfl hy3 ci_3 rfl (by omega) (by omega) (fun z57 hz57 => ?_)
              refine h_iald (pc' := 1302) (v := s0 0 (b3 + 3)) rfl rfl rfl hz57 (by omega) (by omega) (Zs52 _) (fun z58 hz58 => ?_)
              have tz58 := h_rgv hz58
              clear hz57
              refine h_call (sp := false) (pc' := 1305) (M := [(0, .ref 98), (1, .int z54), (2, .int z56), (3, .int z58)]) rfl rfl rfl rfl rfl rfl rfl rfl ?_
              refine n_sheM _ Is52 z54 _ hz54 z56 _ hz56 z58 _ hz58 (fun r59 br59 hr59 s60 Is60 Gs60 tr59 ps60_0 => h_Kv ?_)
              have Zs60 : ∀ i, s60 0 i = s0 0 i := fun i => (Gs60 0 i rfl).trans (Zs52 i)
              have Fs60 : h_F (fun _ _ => true) s60 s0 := fun _ _ h => by cases h
              have es60_0 : s60 64 1 = s0 64 1 := (Gs60 64 1 rfl).trans es52_0
              have es60_1 : s60 98 11 = s0 98 11 := (Gs60 98 11 rfl).trans es52_1
              have es60_2 : s60 64 4 = s0 64 4 := (Gs60 64 4 rfl).trans es52_2
              have es60_3 : s60 98 16 = s0 98 16 := (Gs60 98 16 rfl).trans es52_3
              have es60_4 : s60 90 2 = s0 90 2 := (Gs60 90 2 rfl).trans es52_4
              have es60_5 : s60 98 29 = s0 98 29 := (Gs60 98 29 rfl).trans es52_5
              clear hz54 hz56 hz58
              refine h_pop (pc' := 1306) rfl rfl rfl ?_
              clear hr59
              refine h_goto (pc' := 1441) rfl rfl ?_
              exact kk _ Is60 (by first | exact d_tape.le j0 (Int.le_antisymm (by omega) (by omega)) (by omega) (fun j => (Gs60 65 j rfl).trans ((Gs52 65 j rfl))) (fun j => (Gs60 102 j rfl).trans ((Gs52 102 j rfl))) | (exfalso; omega)) (Int.le_antisymm (by omega) (by omega)) (c_R.fr (c_R.fr j2 I0 Gs52 rfl) Is52 Gs60 rfl) (g_ti.e j3 ((funext (fun j => Gs60 100 j rfl)).trans (funext (fun j => Gs52 100 j rfl)))) (by rcases ps60_0 with q | q | q; (exfalso; omega); (exfalso; omega); exact g_SH.new j4 (by omega) (by omega) (by omega) (by omega) (by omega) (fun j _ _ => (ty_96 I0 j).2.1) (g_zr_t ps52_0 (funext (fun j => Gs60 94 j rfl)) rfl) ((funext (fun j => Gs60 95 j rfl)).trans (ps52_1.trans (g_set_c rfl))) ((funext (fun j => Gs60 96 j rfl)).trans (ps52_2.trans (g_set_c rfl))) (rfl.trans (q.2.2.1.trans (g_set_c (funext (fun j => Gs52 111 j rfl))))) (rfl.trans (q.2.2.2.1.trans (g_set_c (funext (fun j => Gs52 112 j rfl))))) (g_zr_t q.2.2.2.2 rfl (funext (fun j => Gs52 113 j rfl)))) (Int.le_antisymm (by omega) (by omega))
            · refine h_bipush (pc' := 28) (x := (Int32.ofInt (-14))) rfl rfl cb_m14 ?_
              refine h_iret rfl rfl (h_Kv ?_)
              clear hz2 hz4 hz6
              refine h_pop (pc' := 1286) rfl rfl rfl ?_
              refine h_aload_n (pc' := 1287) rfl rfl rfl ?_
              refine h_aload_n (pc' := 1288) rfl rfl rfl ?_
              refine h_iload_n (pc' := 1289) rfl rfl rfl ?_
              refine h_iconst (pc' := 1290) (x := (Int32.ofInt 1)) rfl rfl rfl ?_
              refine h_iadd (pc' := 1291) rfl rfl hy3 ci_1 rfl (by omega) (by omega) (fun z61 hz61 => ?_)
              refine h_iald (pc' := 1292) (v := s0 0 (b3 + 1)) rfl rfl rfl hz61 (by omega) (by omega) rfl (fun z62 hz62 => ?_)
              have tz62 := h_rgv hz62
              clear hz61
              refine h_aload_n (pc' := 1293) rfl rfl rfl ?_
              refine h_iload_n (pc' := 1294) rfl rfl rfl ?_
              refine h_iconst (pc' := 1295) (x := (Int32.ofInt 2)) rfl rfl rfl ?_
              refine h_iadd (pc' := 1296) rfl rfl hy3 ci_2 rfl (by omega) (by omega) (fun z63 hz63 => ?_)
              refine h_iald (pc' := 1297) (v := s0 0 (b3 + 2)) rfl rfl rfl hz63 (by omega) (by omega) rfl (fun z64 hz64 => ?_)
              have tz64 := h_rgv hz64
              clear hz63
              refine h_aload_n (pc' := 1298) rfl rfl rfl ?_
              refine h_iload_n (pc' := 1299) rfl rfl rfl ?_
              refine h_iconst (pc' := 1300) (x := (Int32.ofInt 3)) rfl rfl rfl ?_
              refine h_iadd (pc' := 1301) rfl rfl hy3 ci_3 rfl (by omega) (by omega) (fun z65 hz65 => ?_)
              refine h_iald (pc' := 1302) (v := s0 0 (b3 + 3)) rfl rfl rfl hz65 (by omega) (by omega) rfl (fun z66 hz66 => ?_)
              have tz66 := h_rgv hz66
              clear hz65
              refine h_call (sp := false) (pc' := 1305) (M := [(0, .ref 98), (1, .int z62), (2, .int z64), (3, .int z66)]) rfl rfl rfl rfl rfl rfl rfl rfl ?_
              refine n_sheM _ I0 z62 _ hz62 z64 _ hz64 z66 _ hz66 (fun r67 br67 hr67 s68 Is68 Gs68 tr67 ps68_0 => h_Kv ?_)
              have Zs68 : ∀ i, s68 0 i = s0 0 i := fun i => (Gs68 0 i rfl).trans rfl
              have Fs68 : h_F (fun _ _ => true) s68 s0 := fun _ _ h => by cases h
              have es68_0 : s68 64 1 = s0 64 1 := (Gs68 64 1 rfl).trans rfl
              have es68_1 : s68 98 11 = s0 98 11 := (Gs68 98 11 rfl).trans rfl
              have es68_2 : s68 64 4 = s0 64 4 := (Gs68 64 4 rfl).trans rfl
              have es68_3 : s68 98 16 = s0 98 16 := (Gs68 98 16 rfl).trans rfl
              have es68_4 : s68 90 2 = s0 90 2 := (Gs68 90 2 rfl).trans rfl
              have es68_5 : s68 98 29 = s0 98 29 := (Gs68 98 29 rfl).trans rfl
              clear hz62 hz64 hz66
              refine h_pop (pc' := 1306) rfl rfl rfl ?_
              clear hr67
              refine h_goto (pc' := 1441) rfl rfl ?_
              exact kk _ Is68 (by first | exact d_tape.le j0 (Int.le_antisymm (by omega) (by omega)) (by omega) (fun j => (Gs68 65 j rfl)) (fun j => (Gs68 102 j rfl)) | (exfalso; omega)) (Int.le_antisymm (by omega) (by omega)) (c_R.fr j2 I0 Gs68 rfl) (g_ti.e j3 (funext (fun j => Gs68 100 j rfl))) (by rcases ps68_0 with q | q | q; (exact g_SH.e j4 (funext (fun j => Gs68 94 j rfl)) (funext (fun j => Gs68 95 j rfl)) (funext (fun j => Gs68 96 j rfl)) (rfl.trans (q.2.2.1.trans rfl)) (rfl.trans (q.2.2.2.1.trans rfl)) (rfl.trans (q.2.2.2.2.trans rfl))); (exact g_SH.e j4 (funext (fun j => Gs68 94 j rfl)) (funext (fun j => Gs68 95 j rfl)) (funext (fun j => Gs68 96 j rfl)) (rfl.trans (q.2.2.1.trans rfl)) (rfl.trans (q.2.2.2.1.trans rfl)) (rfl.trans (q.2.2.2.2.trans rfl))); (exfalso; omega)) (Int.le_antisymm (by omega) (by omega))
          · refine h_iconst (pc' := 21) (x := (Int32.ofInt (-1))) rfl rfl rfl ?_
            refine h_iret rfl rfl (h_Kv ?_)
            clear hz2 hz4 hz6
            refine h_pop (pc' := 1286) rfl rfl rfl ?_
            refine h_aload_n (pc' := 1287) rfl rfl rfl ?_
            refine h_aload_n (pc' := 1288) rfl rfl rfl ?_
            refine h_iload_n (pc' := 1289) rfl rfl rfl ?_
            refine h_iconst (pc' := 1290) (x := (Int32.ofInt 1)) rfl rfl rfl ?_
            refine h_iadd (pc' := 1291) rfl rfl hy3 ci_1 rfl (by omega) (by omega) (fun z69 hz69 => ?_)
            refine h_iald (pc' := 1292) (v := s0 0 (b3 + 1)) rfl rfl rfl hz69 (by omega) (by omega) rfl (fun z70 hz70 => ?_)
            have tz70 := h_rgv hz70
            clear hz69
            refine h_aload_n (pc' := 1293) rfl rfl rfl ?_
            refine h_iload_n (pc' := 1294) rfl rfl rfl ?_
            refine h_iconst (pc' := 1295) (x := (Int32.ofInt 2)) rfl rfl rfl ?_
            refine h_iadd (pc' := 1296) rfl rfl hy3 ci_2 rfl (by omega) (by omega) (fun z71 hz71 => ?_)
            refine h_iald (pc' := 1297) (v := s0 0 (b3 + 2)) rfl rfl rfl hz71 (by omega) (by omega) rfl (fun z72 hz72 => ?_)
            have tz72 := h_rgv hz72
            clear hz71
            refine h_aload_n (pc' := 1298) rfl rfl rfl ?_
            refine h_iload_n (pc' := 1299) rfl rfl rfl ?_
            refine h_iconst (pc' := 1300) (x := (Int32.ofInt 3)) rfl rfl rfl ?_
            refine h_iadd (pc' := 1301) rfl rfl hy3 ci_3 rfl (by omega) (by omega) (fun z73 hz73 => ?_)
            refine h_iald (pc' := 1302) (v := s0 0 (b3 + 3)) rfl rfl rfl hz73 (by omega) (by omega) rfl (fun z74 hz74 => ?_)
            have tz74 := h_rgv hz74
            clear hz73
            refine h_call (sp := false) (pc' := 1305) (M := [(0, .ref 98), (1, .int z70), (2, .int z72), (3, .int z74)]) rfl rfl rfl rfl rfl rfl rfl rfl ?_
            refine n_sheM _ I0 z70 _ hz70 z72 _ hz72 z74 _ hz74 (fun r75 br75 hr75 s76 Is76 Gs76 tr75 ps76_0 => h_Kv ?_)
            have Zs76 : ∀ i, s76 0 i = s0 0 i := fun i => (Gs76 0 i rfl).trans rfl
            have Fs76 : h_F (fun _ _ => true) s76 s0 := fun _ _ h => by cases h
            have es76_0 : s76 64 1 = s0 64 1 := (Gs76 64 1 rfl).trans rfl
            have es76_1 : s76 98 11 = s0 98 11 := (Gs76 98 11 rfl).trans rfl
            have es76_2 : s76 64 4 = s0 64 4 := (Gs76 64 4 rfl).trans rfl
            have es76_3 : s76 98 16 = s0 98 16 := (Gs76 98 16 rfl).trans rfl
            have es76_4 : s76 90 2 = s0 90 2 := (Gs76 90 2 rfl).trans rfl
            have es76_5 : s76 98 29 = s0 98 29 := (Gs76 98 29 rfl).trans rfl
            clear hz70 hz72 hz74
            refine h_pop (pc' := 1306) rfl rfl rfl ?_
            clear hr75
            refine h_goto (pc' := 1441) rfl rfl ?_
            exact kk _ Is76 (by first | exact d_tape.le j0 (Int.le_antisymm (by omega) (by omega)) (by omega) (fun j => (Gs76 65 j rfl)) (fun j => (Gs76 102 j rfl)) | (exfalso; omega)) (Int.le_antisymm (by omega) (by omega)) (c_R.fr j2 I0 Gs76 rfl) (g_ti.e j3 (funext (fun j => Gs76 100 j rfl))) (by rcases ps76_0 with q | q | q; (exact g_SH.e j4 (funext (fun j => Gs76 94 j rfl)) (funext (fun j => Gs76 95 j rfl)) (funext (fun j => Gs76 96 j rfl)) (rfl.trans (q.2.2.1.trans rfl)) (rfl.trans (q.2.2.2.1.trans rfl)) (rfl.trans (q.2.2.2.2.trans rfl))); (exact g_SH.e j4 (funext (fun j => Gs76 94 j rfl)) (funext (fun j => Gs76 95 j rfl)) (funext (fun j => Gs76 96 j rfl)) (rfl.trans (q.2.2.1.trans rfl)) (rfl.trans (q.2.2.2.1.trans rfl)) (rfl.trans (q.2.2.2.2.trans rfl))); (exfalso; omega)) (Int.le_antisymm (by omega) (by omega))
