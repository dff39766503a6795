set_option maxHeartbeats 100000000 in
theorem g_case_1352 {ns : Nat} (hns : ns ≤ 320) (s0 : h_S) (I0 : h_I s0) (j0 : d_tape s0 s0) (j1 : s0 64 4 = s0 98 16) (j2 : c_R true s0) (j3 : g_ti s0) (j4 : g_SH s0) (j5 : s0 90 2 = s0 98 29) (y3 : Int32) (b3 : Int) (hy3 : y3.toInt = b3) (hr : 0 ≤ b3 ∧ b3 + 5 ≤ ns) {Q : Option Value → h_S → Prop} (kk : ∀ τ, h_I τ → (d_tape τ τ) → (τ 64 4 = τ 98 16) → (c_R true τ) → (g_ti τ) → (g_SH τ) → (τ 90 2 = τ 98 29) → h_T g_P (g_Y ns) 225 1441 [(0, .ref 0), (1, .ref 9), (2, .ref 98), (3, .int y3)] [] τ Q) : h_T g_P (g_Y ns) 225 1352 [(0, .ref 0), (1, .ref 9), (2, .ref 98), (3, .int y3)] [] s0 Q := by
  have F0_ : h_F (fun _ _ => true) s0 s0 := h_F.rf
  have j0_ := j0.2
  have i0 := tf_64_1 I0
  have i1 := tf_98_11 I0
  have i2 := tf_64_4 I0
  have i3 := tf_98_16 I0
  have i4 := tf_90_2 I0
  have i5 := tf_98_29 I0
  refine h_aload_n (pc' := 1353) rfl rfl rfl ?_
  refine h_aload_n (pc' := 1354) rfl rfl rfl ?_
  refine h_iload_n (pc' := 1355) rfl rfl rfl ?_
  refine h_iconst (pc' := 1356) (x := (Int32.ofInt 1)) rfl rfl rfl ?_
  refine h_iadd (pc' := 1357) rfl rfl hy3 ci_1 rfl (by omega) (by omega) (fun z1 hz1 => ?_)
  refine h_iald (pc' := 1358) (v := s0 0 (b3 + 1)) rfl rfl rfl hz1 (by omega) (by omega) rfl (fun z2 hz2 => ?_)
  have tz2 := h_rgv hz2
  clear hz1
  refine h_aload_n (pc' := 1359) rfl rfl rfl ?_
  refine h_iload_n (pc' := 1360) rfl rfl rfl ?_
  refine h_iconst (pc' := 1361) (x := (Int32.ofInt 2)) rfl rfl rfl ?_
  refine h_iadd (pc' := 1362) rfl rfl hy3 ci_2 rfl (by omega) (by omega) (fun z3 hz3 => ?_)
  refine h_iald (pc' := 1363) (v := s0 0 (b3 + 2)) rfl rfl rfl hz3 (by omega) (by omega) rfl (fun z4 hz4 => ?_)
  have tz4 := h_rgv hz4
  clear hz3
  refine h_aload_n (pc' := 1364) rfl rfl rfl ?_
  refine h_iload_n (pc' := 1365) rfl rfl rfl ?_
  refine h_iconst (pc' := 1366) (x := (Int32.ofInt 3)) rfl rfl rfl ?_
  refine h_iadd (pc' := 1367) rfl rfl hy3 ci_3 rfl (by omega) (by omega) (fun z5 hz5 => ?_)
  refine h_iald (pc' := 1368) (v := s0 0 (b3 + 3)) rfl rfl rfl hz5 (by omega) (by omega) rfl (fun z6 hz6 => ?_)
  have tz6 := h_rgv hz6
  clear hz5
  refine h_aload_n (pc' := 1369) rfl rfl rfl ?_
  refine h_iload_n (pc' := 1370) rfl rfl rfl ?_
  refine h_iconst (pc' := 1371) (x := (Int32.ofInt 4)) rfl rfl rfl ?_
  refine h_iadd (pc' := 1372) rfl rfl hy3 ci_4 rfl (by omega) (by omega) (fun z7 hz7 => ?_)
  refine h_iald (pc' := 1373) (v := s0 0 (b3 + 4)) rfl rfl rfl hz7 (by omega) (by omega) rfl (fun z8 hz8 => ?_)
  have tz8 := h_rgv hz8
  clear hz7
  refine h_call (sp := false) (pc' := 1376) (M := [(0, .ref 9), (1, .int z2), (2, .int z4), (3, .int z6), (4, .int z8)]) rfl rfl rfl rfl rfl rfl rfl rfl ?_
  refine n_readX _ I0 z2 _ hz2 z4 _ hz4 z6 _ hz6 z8 _ hz8 (fun g a b => by have gl := (j2.lw (j := g) a b).1; omega) (fun r9 br9 hr9 s10 Is10 Gs10 tr9 ps10_0 => h_Kv ?_)
  have Zs10 : ∀ i, s10 0 i = s0 0 i := fun i => (Gs10 0 i rfl).trans rfl
  have Fs10 : h_F (fun _ _ => true) s10 s0 := fun _ _ h => by cases h
  have es10_0 : s10 64 1 = s0 64 1 := (Gs10 64 1 rfl).trans rfl
  have es10_1 : s10 98 11 = s0 98 11 := (Gs10 98 11 rfl).trans rfl
  have es10_2 : s10 64 4 = s0 64 4 := (Gs10 64 4 rfl).trans rfl
  have es10_3 : s10 98 16 = s0 98 16 := (Gs10 98 16 rfl).trans rfl
  have es10_4 : s10 90 2 = s0 90 2 := (Gs10 90 2 rfl).trans rfl
  have es10_5 : s10 98 29 = s0 98 29 := (Gs10 98 29 rfl).trans rfl
  clear hz2 hz4 hz6 hz8
  refine h_pop (pc' := 1377) rfl rfl rfl ?_
  clear hr9
  refine h_aload_n (pc' := 1378) rfl rfl rfl ?_
  refine h_aload_n (pc' := 1379) rfl rfl rfl ?_
  refine h_iload_n (pc' := 1380) rfl rfl rfl ?_
  refine h_iconst (pc' := 1381) (x := (Int32.ofInt 1)) rfl rfl rfl ?_
  refine h_iadd (pc' := 1382) rfl rfl hy3 ci_1 rfl (by omega) (by omega) (fun z11 hz11 => ?_)
  refine h_iald (pc' := 1383) (v := s0 0 (b3 + 1)) rfl rfl rfl hz11 (by omega) (by omega) (Zs10 _) (fun z12 hz12 => ?_)
  have tz12 := h_rgv hz12
  clear hz11
  refine h_aload_n (pc' := 1384) rfl rfl rfl ?_
  refine h_iload_n (pc' := 1385) rfl rfl rfl ?_
  refine h_iconst (pc' := 1386) (x := (Int32.ofInt 2)) rfl rfl rfl ?_
  refine h_iadd (pc' := 1387) rfl rfl hy3 ci_2 rfl (by omega) (by omega) (fun z13 hz13 => ?_)
  refine h_iald (pc' := 1388) (v := s0 0 (b3 + 2)) rfl rfl rfl hz13 (by omega) (by omega) (Zs10 _) (fun z14 hz14 => ?_)
  have tz14 := h_rgv hz14
  clear hz13
  refine h_aload_n (pc' := 1389) rfl rfl rfl ?_
  refine h_iload_n (pc' := 1390) rfl rfl rfl ?_
  refine h_iconst (pc' := 1391) (x := (Int32.ofInt 3)) rfl rfl rfl ?_
  refine h_iadd (pc' := 1392) rfl rfl hy3 ci_3 rfl (by omega) (by omega) (fun z15 hz15 => ?_)
  refine h_iald (pc' := 1393) (v := s0 0 (b3 + 3)) rfl rfl rfl hz15 (by omega) (by omega) (Zs10 _) (fun z16 hz16 => ?_)
  have tz16 := h_rgv hz16
  clear hz15
  refine h_aload_n (pc' := 1394) rfl rfl rfl ?_
  refine h_iload_n (pc' := 1395) rfl rfl rfl ?_
  refine h_iconst (pc' := 1396) (x := (Int32.ofInt 4)) rfl rfl rfl ?_
  refine h_iadd (pc' := 1397) rfl rfl hy3 ci_4 rfl (by omega) (by omega) (fun z17 hz17 => ?_)
  refine h_iald (pc' := 1398) (v := s0 0 (b3 + 4)) rfl rfl rfl hz17 (by omega) (by omega) (Zs10 _) (fun z18 hz18 => ?_)
  have tz18 := h_rgv hz18
  clear hz17
  refine h_call (sp := false) (pc' := 1401) (M := [(0, .ref 98), (1, .int z12), (2, .int z14), (3, .int z16), (4, .int z18)]) rfl rfl rfl rfl rfl rfl rfl rfl ?_
  refine n_readM _ Is10 z12 _ hz12 z14 _ hz14 z16 _ hz16 z18 _ hz18 (fun r19 br19 hr19 s20 Is20 Gs20 tr19 ps20_0 => h_Kv ?_)
  have Zs20 : ∀ i, s20 0 i = s0 0 i := fun i => (Gs20 0 i rfl).trans (Zs10 i)
  have Fs20 : h_F (fun _ _ => true) s20 s0 := fun _ _ h => by cases h
  have es20_0 : s20 64 1 = s0 64 1 := (Gs20 64 1 rfl).trans es10_0
  have es20_1 : s20 98 11 = s0 98 11 := (Gs20 98 11 rfl).trans es10_1
  have es20_2 : s20 64 4 = s0 64 4 := (Gs20 64 4 rfl).trans es10_2
  have es20_3 : s20 98 16 = s0 98 16 := (Gs20 98 16 rfl).trans es10_3
  have es20_4 : s20 90 2 = s0 90 2 := (Gs20 90 2 rfl).trans es10_4
  have es20_5 : s20 98 29 = s0 98 29 := (Gs20 98 29 rfl).trans es10_5
  clear hz12 hz14 hz16 hz18
  refine h_pop (pc' := 1402) rfl rfl rfl ?_
  clear hr19
  refine h_goto (pc' := 1441) rfl rfl ?_
  exact kk _ Is20 (by first | exact d_tape.le j0 (Int.le_antisymm (by omega) (by omega)) (by omega) (fun j => (Gs20 65 j rfl).trans ((Gs10 65 j rfl))) (fun j => (Gs20 102 j rfl).trans ((Gs10 102 j rfl))) | (exfalso; omega)) (Int.le_antisymm (by omega) (by omega)) (c_R.readR j2 I0 j3 j4 ((c_eq.fr (fl := false) Gs20 rfl).tr (c_eq.fr (fl := false) Gs10 rfl)) ((c_eq.fr (fl := true) Gs20 rfl).tr (c_eq.fr (fl := true) Gs10 rfl)) ((c_eq.fr (fl := true) Gs20 rfl).tr (c_eq.fr (fl := true) Gs10 rfl)) ((c_pg.fr (fl := true) (o := 44) Gs10 rfl).tr (c_pg.fr (fl := true) (o := 44) Gs20 rfl)) ((c_pg.fr (fl := true) (o := 88) Gs10 rfl).tr (c_pg.fr (fl := true) (o := 88) Gs20 rfl)) ((Gs20 98 1 rfl).trans (Gs10 98 1 rfl)) ((Gs20 98 2 rfl).trans (Gs10 98 2 rfl)) ((Gs20 62 0 rfl).trans (Gs10 62 0 rfl)) ((Gs20 62 1 rfl).trans (Gs10 62 1 rfl)) ((Gs20 110 0 rfl).trans (Gs10 110 0 rfl)) ((Gs20 110 1 rfl).trans (Gs10 110 1 rfl)) (funext (fun j => Gs20 20 j rfl)) (funext (fun j => Gs20 21 j rfl)) (funext (fun j => Gs10 99 j rfl)) (Gs10 98 1 rfl) (Gs10 98 2 rfl) (funext (fun j => Gs10 100 j rfl)) (funext (fun j => Gs10 111 j rfl)) (funext (fun j => Gs10 112 j rfl)) (funext (fun j => Gs10 113 j rfl)) ps10_0 ps20_0).1 (g_ti.e j3 ((funext (fun j => Gs20 100 j rfl)).trans (funext (fun j => Gs10 100 j rfl)))) (g_SH.e j4 ((funext (fun j => Gs20 94 j rfl)).trans (funext (fun j => Gs10 94 j rfl))) ((funext (fun j => Gs20 95 j rfl)).trans (funext (fun j => Gs10 95 j rfl))) ((funext (fun j => Gs20 96 j rfl)).trans (funext (fun j => Gs10 96 j rfl))) ((funext (fun j => Gs20 111 j rfl)).trans (funext (fun j => Gs10 111 j rfl))) ((funext (fun j => Gs20 112 j rfl)).trans (funext (fun j => Gs10 112 j rfl))) ((funext (fun j => Gs20 113 j rfl)).trans (funext (fun j => Gs10 113 j rfl)))) (Int.le_antisymm (by omega) (by omega))
set_option maxHeartbeats 100000000 in
theorem g_case_1405 {ns : Nat} (hns : ns ≤ 320) (s0 : h_S) (I0 : h_I s0) (j0 : d_tape s0 s0) (j1 : s0 64 4 = s0 98 16) (j2 : c_R true s0) (j3 : g_ti s0) (j4 : g_SH s0) (j5 : s0 90 2 = s0 98 29) (y3 : Int32) (b3 : Int) (hy3 : y3.toInt = b3) (hr : 0 ≤ b3 ∧ b3 + 5 ≤ ns) {Q : Option Value → h_S → Prop} (kk : ∀ τ, h_I τ → (d_tape τ τ) → (τ 64 4 = τ 98 16) → (c_R true τ) → (g_ti τ) → (g_SH τ) → (τ 90 2 = τ 98 29) → h_T g_P (g_Y ns) 225 1441 [(0, .ref 0), (1, .ref 9), (2, .ref 98), (3, .int y3)] [] τ Q) : h_T g_P (g_Y ns) 225 1405 [(0, .ref 0), (1, .ref 9), (2, .ref 98), (3, .int y3)] [] s0 Q := by
  have F0_ : h_F (fun _ _ => true) s0 s0 := h_F.rf
  have j0_ := j0.2
  have i0 := tf_64_1 I0
  have i1 := tf_98_11 I0
  have i2 := tf_64_4 I0
  have i3 := tf_98_16 I0
  have i4 := tf_90_2 I0
  have i5 := tf_98_29 I0
  refine h_aload_n (pc' := 1406) rfl rfl rfl ?_
  refine h_call (sp := false) (pc' := 1409) (M := [(0, .ref 9)]) rfl rfl rfl rfl rfl rfl rfl rfl ?_
  refine w_121_9 _ I0  (fun r1 br1 hr1 s2 Is2 Gs2 => h_Kv ?_)
  have Zs2 : ∀ i, s2 0 i = s0 0 i := fun i => (Gs2 0 i rfl).trans rfl
  have Fs2 : h_F (fun _ _ => true) s2 s0 := fun _ _ h => by cases h
  have es2_0 : s2 64 1 = s0 64 1 := (Gs2 64 1 rfl).trans rfl
  have es2_1 : s2 98 11 = s0 98 11 := (Gs2 98 11 rfl).trans rfl
  have es2_2 : s2 64 4 = s0 64 4 := (Gs2 64 4 rfl).trans rfl
  have es2_3 : s2 98 16 = s0 98 16 := (Gs2 98 16 rfl).trans rfl
  have es2_4 : s2 90 2 = s0 90 2 := (Gs2 90 2 rfl).trans rfl
  have es2_5 : s2 98 29 = s0 98 29 := (Gs2 98 29 rfl).trans rfl
  refine h_pop (pc' := 1410) rfl rfl rfl ?_
  clear hr1
  refine h_aload_n (pc' := 1411) rfl rfl rfl ?_
  refine h_call (sp := false) (pc' := 1414) (M := [(0, .ref 98)]) rfl rfl rfl rfl rfl rfl rfl rfl ?_
  refine w_223_98 _ Is2  (fun r3 br3 hr3 s4 Is4 Gs4 => h_Kv ?_)
  have Zs4 : ∀ i, s4 0 i = s0 0 i := fun i => (Gs4 0 i rfl).trans (Zs2 i)
  have Fs4 : h_F (fun _ _ => true) s4 s0 := fun _ _ h => by cases h
  have es4_0 : s4 64 1 = s0 64 1 := (Gs4 64 1 rfl).trans es2_0
  have es4_1 : s4 98 11 = s0 98 11 := (Gs4 98 11 rfl).trans es2_1
  have es4_2 : s4 64 4 = s0 64 4 := (Gs4 64 4 rfl).trans es2_2
  have es4_3 : s4 98 16 = s0 98 16 := (Gs4 98 16 rfl).trans es2_3
  have es4_4 : s4 90 2 = s0 90 2 := (Gs4 90 2 rfl).trans es2_4
  have es4_5 : s4 98 29 = s0 98 29 := (Gs4 98 29 rfl).trans es2_5
  clear es2_0 es2_1 es2_2 es2_3 es2_4 es2_5
  refine h_pop (pc' := 1415) rfl rfl rfl ?_
  clear hr3
  refine h_goto (pc' := 1441) rfl rfl ?_
  exact kk _ Is4 (by first | exact d_tape.le j0 (Int.le_antisymm (by omega) (by omega)) (by omega) (fun j => (Gs4 65 j rfl).trans ((Gs2 65 j rfl))) (fun j => (Gs4 102 j rfl).trans ((Gs2 102 j rfl))) | (exfalso; omega)) (Int.le_antisymm (by omega) (by omega)) (c_R.fr (c_R.fr j2 I0 Gs2 rfl) Is2 Gs4 rfl) (g_ti.e j3 ((funext (fun j => Gs4 100 j rfl)).trans (funext (fun j => Gs2 100 j rfl)))) (g_SH.e j4 ((funext (fun j => Gs4 94 j rfl)).trans (funext (fun j => Gs2 94 j rfl))) ((funext (fun j => Gs4 95 j rfl)).trans (funext (fun j => Gs2 95 j rfl))) ((funext (fun j => Gs4 96 j rfl)).trans (funext (fun j => Gs2 96 j rfl))) ((funext (fun j => Gs4 111 j rfl)).trans (funext (fun j => Gs2 111 j rfl))) ((funext (fun j => Gs4 112 j rfl)).trans (funext (fun j => Gs2 112 j rfl))) ((funext (fun j => Gs4 113 j rfl)).trans (funext (fun j => Gs2 113 j rfl)))) (Int.le_antisymm (by omega) (by omega))
set_option maxHeartbeats 100000000 in
theorem g_case_1418 {ns : Nat} (hns : ns ≤ 320) (s0 : h_S) (I0 : h_I s0) (j0 : d_tape s0 s0) (j1 : s0 64 4 = s0 98 16) (j2 : c_R true s0) (j3 : g_ti s0) (j4 : g_SH s0) (j5 : s0 90 2 = s0 98 29) (y3 : Int32) (b3 : Int) (hy3 : y3.toInt = b3) (hr : 0 ≤ b3 ∧ b3 + 5 ≤ ns) {Q : Option Value → h_S → Prop} (kk : ∀ τ, h_I τ → (d_tape τ τ) → (τ 64 4 = τ 98 16) → (c_R true τ) → (g_ti τ) → (g_SH τ) → (τ 90 2 = τ 98 29) → h_T g_P (g_Y ns) 225 1441 [(0, .ref 0), (1, .ref 9), (2, .ref 98), (3, .int y3)] [] τ Q) : h_T g_P (g_Y ns) 225 1418 [(0, .ref 0), (1, .ref 9), (2, .ref 98), (3, .int y3)] [] s0 Q := by
  have F0_ : h_F (fun _ _ => true) s0 s0 := h_F.rf
  have j0_ := j0.2
  have i0 := tf_64_1 I0
  have i1 := tf_98_11 I0
  have i2 := tf_64_4 I0
  have i3 := tf_98_16 I0
  have i4 := tf_90_2 I0
  have i5 := tf_98_29 I0
  have j2_ := j2.sz
  have j2i := j2.2.2.1
  have y62_0 := ty_62 I0 0
  have y62_1 := ty_62 I0 1
  have y110_0 := ty_110 I0 0
  have y110_1 := ty_110 I0 1
  refine h_aload_n (pc' := 1419) rfl rfl rfl ?_
  refine h_aload_n (pc' := 1420) rfl rfl rfl ?_
  refine h_iload_n (pc' := 1421) rfl rfl rfl ?_
  refine h_iconst (pc' := 1422) (x := (Int32.ofInt 1)) rfl rfl rfl ?_
  refine h_iadd (pc' := 1423) rfl rfl hy3 ci_1 rfl (by omega) (by omega) (fun z1 hz1 => ?_)
  refine h_iald (pc' := 1424) (v := s0 0 (b3 + 1)) rfl rfl rfl hz1 (by omega) (by omega) rfl (fun z2 hz2 => ?_)
  have tz2 := h_rgv hz2
  clear hz1
  refine h_call (sp := false) (pc' := 1427) (M := [(0, .ref 9), (1, .int z2)]) rfl rfl rfl rfl rfl rfl rfl rfl ?_
  refine h_iload_n (pc' := 1) rfl rfl rfl ?_
  refine h_tsw (dt := 103) (ts := [36, 44, 74, 85, 95]) rfl rfl rfl rfl hz2 (fun c3 => ?_) ⟨fun c3 => ?_, fun c3 => ?_, fun c3 => ?_, fun c3 => ?_, fun c3 => ?_, trivial⟩
  · refine h_iconst (pc' := 104) (x := (Int32.ofInt (-1))) rfl rfl rfl ?_
    refine h_iret rfl rfl (h_Kv ?_)
    clear hz2
    refine h_aload_n (pc' := 1428) rfl rfl rfl ?_
    refine h_aload_n (pc' := 1429) rfl rfl rfl ?_
    refine h_iload_n (pc' := 1430) rfl rfl rfl ?_
    refine h_iconst (pc' := 1431) (x := (Int32.ofInt 1)) rfl rfl rfl ?_
    refine h_iadd (pc' := 1432) rfl rfl hy3 ci_1 rfl (by omega) (by omega) (fun z4 hz4 => ?_)
    refine h_iald (pc' := 1433) (v := s0 0 (b3 + 1)) rfl rfl rfl hz4 (by omega) (by omega) rfl (fun z5 hz5 => ?_)
    have tz5 := h_rgv hz5
    clear hz4
    refine h_call (sp := false) (pc' := 1436) (M := [(0, .ref 98), (1, .int z5)]) rfl rfl rfl rfl rfl rfl rfl rfl ?_
    refine n_cnt _ I0 z5 _ hz5 (fun r6 br6 hr6 tr6 ps7_0 => h_Kv ?_)
    clear hz5
    refine h_ceq (tg := 1441) (pc' := 1439) rfl rfl rfl ci_m1 hr6 (fun c8 => ?_) (fun c8 => ?_)
    · clear hr6
      exact kk _ I0 (by first | exact d_tape.le j0 (Int.le_antisymm (by omega) (by omega)) (by omega) (fun j => rfl) (fun j => rfl) | (exfalso; omega)) (Int.le_antisymm (by omega) (by omega)) j2 (g_ti.e j3 rfl) (g_SH.e j4 rfl rfl rfl rfl rfl rfl) (Int.le_antisymm (by omega) (by omega))
    · clear hr6
      refine h_iconst (pc' := 1440) (x := (Int32.ofInt 0)) rfl rfl rfl ?_
      have gk := g_SH.ar j4 (k := 0) (by omega) (by omega)
      exfalso
      omega
  · refine h_aload_n (pc' := 37) rfl rfl rfl ?_
    refine h_getR (pc' := 40) rfl rfl rfl rfl rfl ?_
    refine h_getI (pc' := 43) (v := s0 90 2) rfl rfl rfl rfl rfl rfl (fun z9 hz9 => ?_)
    have tz9 := tf_90_2 I0
    refine h_iret rfl rfl (h_Kv ?_)
    clear hz2
    refine h_aload_n (pc' := 1428) rfl rfl rfl ?_
    refine h_aload_n (pc' := 1429) rfl rfl rfl ?_
    refine h_iload_n (pc' := 1430) rfl rfl rfl ?_
    refine h_iconst (pc' := 1431) (x := (Int32.ofInt 1)) rfl rfl rfl ?_
    refine h_iadd (pc' := 1432) rfl rfl hy3 ci_1 rfl (by omega) (by omega) (fun z10 hz10 => ?_)
    refine h_iald (pc' := 1433) (v := s0 0 (b3 + 1)) rfl rfl rfl hz10 (by omega) (by omega) rfl (fun z11 hz11 => ?_)
    have tz11 := h_rgv hz11
    clear hz10
    refine h_call (sp := false) (pc' := 1436) (M := [(0, .ref 98), (1, .int z11)]) rfl rfl rfl rfl rfl rfl rfl rfl ?_
    refine n_cnt _ I0 z11 _ hz11 (fun r12 br12 hr12 tr12 ps13_0 => h_Kv ?_)
    clear hz11
    refine h_ceq (tg := 1441) (pc' := 1439) rfl rfl rfl hz9 hr12 (fun c14 => ?_) (fun c14 => ?_)
    · clear hr12 hz9
      exact kk _ I0 (by first | exact d_tape.le j0 (Int.le_antisymm (by omega) (by omega)) (by omega) (fun j => rfl) (fun j => rfl) | (exfalso; omega)) (Int.le_antisymm (by omega) (by omega)) j2 (g_ti.e j3 rfl) (g_SH.e j4 rfl rfl rfl rfl rfl rfl) (Int.le_antisymm (by omega) (by omega))
    · clear hr12 hz9
      refine h_iconst (pc' := 1440) (x := (Int32.ofInt 0)) rfl rfl rfl ?_
      have gk := g_SH.ar j4 (k := 0) (by omega) (by omega)
      exfalso
      omega
  · refine h_aload_n (pc' := 45) rfl rfl rfl ?_
    refine h_getR (pc' := 48) rfl rfl rfl rfl rfl ?_
    refine h_iconst (pc' := 49) (x := (Int32.ofInt 0)) rfl rfl rfl ?_
    refine h_bald (pc' := 50) (v := s0 62 0) rfl rfl rfl ci_0 (by omega) (by omega) rfl (fun z15 hz15 => ?_)
    have tz15 := ty_62 I0 0
    refine h_zeq (tg := 57) (pc' := 53) rfl rfl rfl hz15 (fun c16 => ?_) (fun c16 => ?_)
    · clear hz15
      refine h_iconst (pc' := 58) (x := (Int32.ofInt 0)) rfl rfl rfl ?_
      refine h_aload_n (pc' := 59) rfl rfl rfl ?_
      refine h_getR (pc' := 62) rfl rfl rfl rfl rfl ?_
      refine h_iconst (pc' := 63) (x := (Int32.ofInt 1)) rfl rfl rfl ?_
      refine h_bald (pc' := 64) (v := s0 62 1) rfl rfl rfl ci_1 (by omega) (by omega) rfl (fun z17 hz17 => ?_)
      have tz17 := ty_62 I0 1
      refine h_zeq (tg := 71) (pc' := 67) rfl rfl rfl hz17 (fun c18 => ?_) (fun c18 => ?_)
      · clear hz17
        refine h_iconst (pc' := 72) (x := (Int32.ofInt 0)) rfl rfl rfl ?_
        refine h_iadd (pc' := 73) (c := 0) rfl rfl ci_0 ci_0 rfl (by omega) (by omega) (fun z19 hz19 => ?_)
        refine h_iret rfl rfl (h_Kv ?_)
        clear hz2
        refine h_aload_n (pc' := 1428) rfl rfl rfl ?_
        refine h_aload_n (pc' := 1429) rfl rfl rfl ?_
        refine h_iload_n (pc' := 1430) rfl rfl rfl ?_
        refine h_iconst (pc' := 1431) (x := (Int32.ofInt 1)) rfl rfl rfl ?_
        refine h_iadd (pc' := 1432) rfl rfl hy3 ci_1 rfl (by omega) (by omega) (fun z20 hz20 => ?_)
        refine h_iald (pc' := 1433) (v := s0 0 (b3 + 1)) rfl rfl rfl hz20 (by omega) (by omega) rfl (fun z21 hz21 => ?_)
        have tz21 := h_rgv hz21
        clear hz20
        refine h_call (sp := false) (pc' := 1436) (M := [(0, .ref 98), (1, .int z21)]) rfl rfl rfl rfl rfl rfl rfl rfl ?_
        refine n_cnt _ I0 z21 _ hz21 (fun r22 br22 hr22 tr22 ps23_0 => h_Kv ?_)
        clear hz21
        refine h_ceq (tg := 1441) (pc' := 1439) rfl rfl rfl hz19 hr22 (fun c24 => ?_) (fun c24 => ?_)
        · clear hr22 hz19
          exact kk _ I0 (by first | exact d_tape.le j0 (Int.le_antisymm (by omega) (by omega)) (by omega) (fun j => rfl) (fun j => rfl) | (exfalso; omega)) (Int.le_antisymm (by omega) (by omega)) j2 (g_ti.e j3 rfl) (g_SH.e j4 rfl rfl rfl rfl rfl rfl) (Int.le_antisymm (by omega) (by omega))
        · clear hr22 hz19
          refine h_iconst (pc' := 1440) (x := (Int32.ofInt 0)) rfl rfl rfl ?_
          have gk := g_SH.ar j4 (k := 0) (by omega) (by omega)
          exfalso
          omega
      · clear hz17
        refine h_iconst (pc' := 68) (x := (Int32.ofInt 1)) rfl rfl rfl ?_
        refine h_goto (pc' := 72) rfl rfl ?_
        refine h_iadd (pc' := 73) (c := 1) rfl rfl ci_0 ci_1 rfl (by omega) (by omega) (fun z25 hz25 => ?_)
        refine h_iret rfl rfl (h_Kv ?_)
        clear hz2
        refine h_aload_n (pc' := 1428) rfl rfl rfl ?_
        refine h_aload_n (pc' := 1429) rfl rfl rfl ?_
        refine h_iload_n (pc' := 1430) rfl rfl rfl ?_
        refine h_iconst (pc' := 1431) (x := (Int32.ofInt 1)) rfl rfl rfl ?_
        refine h_iadd (pc' := 1432) rfl rfl hy3 ci_1 rfl (by omega) (by omega) (fun z26 hz26 => ?_)
        refine h_iald (pc' := 1433) (v := s0 0 (b3 + 1)) rfl rfl rfl hz26 (by omega) (by omega) rfl (fun z27 hz27 => ?_)
        have tz27 := h_rgv hz27
        clear hz26
        refine h_call (sp := false) (pc' := 1436) (M := [(0, .ref 98), (1, .int z27)]) rfl rfl rfl rfl rfl rfl rfl rfl ?_
        refine n_cnt _ I0 z27 _ hz27 (fun r28 br28 hr28 tr28 ps29_0 => h_Kv ?_)
        clear hz27
        refine h_ceq (tg := 1441) (pc' := 1439) rfl rfl rfl hz25 hr28 (fun c30 => ?_) (fun c30 => ?_)
        · clear hr28 hz25
          exact kk _ I0 (by first | exact d_tape.le j0 (Int.le_antisymm (by omega) (by omega)) (by omega) (fun j => rfl) (fun j => rfl) | (exfalso; omega)) (Int.le_antisymm (by omega) (by omega)) j2 (g_ti.e j3 rfl) (g_SH.e j4 rfl rfl rfl rfl rfl rfl) (Int.le_antisymm (by omega) (by omega))
        · clear hr28 hz25
          refine h_iconst (pc' := 1440) (x := (Int32.ofInt 0)) rfl rfl rfl ?_
          have gk := g_SH.ar j4 (k := 0) (by omega) (by omega)
          exfalso
          omega
    · clear hz15
      refine h_iconst (pc' := 54) (x := (Int32.ofInt 1)) rfl rfl rfl ?_
      refine h_goto (pc' := 58) rfl rfl ?_
      refine h_aload_n (pc' := 59) rfl rfl rfl ?_
      refine h_getR (pc' := 62) rfl rfl rfl rfl rfl ?_
      refine h_iconst (pc' := 63) (x := (Int32.ofInt 1)) rfl rfl rfl ?_
      refine h_bald (pc' := 64) (v := s0 62 1) rfl rfl rfl ci_1 (by omega) (by omega) rfl (fun z31 hz31 => ?_)
      have tz31 := ty_62 I0 1
      refine h_zeq (tg := 71) (pc' := 67) rfl rfl rfl hz31 (fun c32 => ?_) (fun c32 => ?_)
      · clear hz31
        refine h_iconst (pc' := 72) (x := (Int32.ofInt 0)) rfl rfl rfl ?_
        refine h_iadd (pc' := 73) (c := 1) rfl rfl ci_1 ci_0 rfl (by omega) (by omega) (fun z33 hz33 => ?_)
        refine h_iret rfl rfl (h_Kv ?_)
        clear hz2
        refine h_aload_n (pc' := 1428) rfl rfl rfl ?_
        refine h_aload_n (pc' := 1429) rfl rfl rfl ?_
        refine h_iload_n (pc' := 1430) rfl rfl rfl ?_
        refine h_iconst (pc' := 1431) (x := (Int32.ofInt 1)) rfl rfl rfl ?_
        refine h_iadd (pc' := 1432) rfl rfl hy3 ci_1 rfl (by omega) (by omega) (fun z34 hz34 => ?_)
        refine h_iald (pc' := 1433) (v := s0 0 (b3 + 1)) rfl rfl rfl hz34 (by omega) (by omega) rfl (fun z35 hz35 => ?_)
        have tz35 := h_rgv hz35
        clear hz34
        refine h_call (sp := false) (pc' := 1436) (M := [(0, .ref 98), (1, .int z35)]) rfl rfl rfl rfl rfl rfl rfl rfl ?_
        refine n_cnt _ I0 z35 _ hz35 (fun r36 br36 hr36 tr36 ps37_0 => h_Kv ?_)
        clear hz35
        refine h_ceq (tg := 1441) (pc' := 1439) rfl rfl rfl hz33 hr36 (fun c38 => ?_) (fun c38 => ?_)
        · clear hr36 hz33
          exact kk _ I0 (by first | exact d_tape.le j0 (Int.le_antisymm (by omega) (by omega)) (by omega) (fun j => rfl) (fun j => rfl) | (exfalso; omega)) (Int.le_antisymm (by omega) (by omega)) j2 (g_ti.e j3 rfl) (g_SH.e j4 rfl rfl rfl rfl rfl rfl) (Int.le_antisymm (by omega) (by omega))
        · clear hr36 hz33
          refine h_iconst (pc' := 1440) (x := (Int32.ofInt 0)) rfl rfl rfl ?_
          have gk := g_SH.ar j4 (k := 0) (by omega) (by omega)
          exfalso
          omega
      · clear hz31
        refine h_iconst (pc' := 68) (x := (Int32.ofInt 1)) rfl rfl rfl ?_
        refine h_goto (pc' := 72) rfl rfl ?_
        refine h_iadd (pc' := 73) (c := 2) rfl rfl ci_1 ci_1 rfl (by omega) (by omega) (fun z39 hz39 => ?_)
        refine h_iret rfl rfl (h_Kv ?_)
        clear hz2
        refine h_aload_n (pc' := 1428) rfl rfl rfl ?_
        refine h_aload_n (pc' := 1429) rfl rfl rfl ?_
        refine h_iload_n (pc' := 1430) rfl rfl rfl ?_
        refine h_iconst (pc' := 1431) (x := (Int32.ofInt 1)) rfl rfl rfl ?_
        refine h_iadd (pc' := 1432) rfl rfl hy3 ci_1 rfl (by omega) (by omega) (fun z40 hz40 => ?_)
        refine h_iald (pc' := 1433) (v := s0 0 (b3 + 1)) rfl rfl rfl hz40 (by omega) (by omega) rfl (fun z41 hz41 => ?_)
        have tz41 := h_rgv hz41
        clear hz40
        refine h_call (sp := false) (pc' := 1436) (M := [(0, .ref 98), (1, .int z41)]) rfl rfl rfl rfl rfl rfl rfl rfl ?_
        refine n_cnt _ I0 z41 _ hz41 (fun r42 br42 hr42 tr42 ps43_0 => h_Kv ?_)
        clear hz41
        refine h_ceq (tg := 1441) (pc' := 1439) rfl rfl rfl hz39 hr42 (fun c44 => ?_) (fun c44 => ?_)
        · clear hr42 hz39
          exact kk _ I0 (by first | exact d_tape.le j0 (Int.le_antisymm (by omega) (by omega)) (by omega) (fun j => rfl) (fun j => rfl) | (exfalso; omega)) (Int.le_antisymm (by omega) (by omega)) j2 (g_ti.e j3 rfl) (g_SH.e j4 rfl rfl rfl rfl rfl rfl) (Int.le_antisymm (by omega) (by omega))
        · clear hr42 hz39
          refine h_iconst (pc' := 1440) (x := (Int32.ofInt 0)) rfl rfl rfl ?_
          have gk := g_SH.ar j4 (k := 0) (by omega) (by omega)
          exfalso
          omega
  · refine h_aload_n (pc' := 75) rfl rfl rfl ?_
    refine h_getR (pc' := 78) rfl rfl rfl rfl rfl ?_
    refine h_getR (pc' := 81) rfl rfl rfl rfl rfl ?_
    refine h_getI (pc' := 84) (v := s0 64 1) rfl rfl rfl rfl rfl rfl (fun z45 hz45 => ?_)
    have tz45 := tf_64_1 I0
    refine h_iret rfl rfl (h_Kv ?_)
    clear hz2
    refine h_aload_n (pc' := 1428) rfl rfl rfl ?_
    refine h_aload_n (pc' := 1429) rfl rfl rfl ?_
    refine h_iload_n (pc' := 1430) rfl rfl rfl ?_
    refine h_iconst (pc' := 1431) (x := (Int32.ofInt 1)) rfl rfl rfl ?_
    refine h_iadd (pc' := 1432) rfl rfl hy3 ci_1 rfl (by omega) (by omega) (fun z46 hz46 => ?_)
    refine h_iald (pc' := 1433) (v := s0 0 (b3 + 1)) rfl rfl rfl hz46 (by omega) (by omega) rfl (fun z47 hz47 => ?_)
    have tz47 := h_rgv hz47
    clear hz46
    refine h_call (sp := false) (pc' := 1436) (M := [(0, .ref 98), (1, .int z47)]) rfl rfl rfl rfl rfl rfl rfl rfl ?_
    refine n_cnt _ I0 z47 _ hz47 (fun r48 br48 hr48 tr48 ps49_0 => h_Kv ?_)
    clear hz47
    refine h_ceq (tg := 1441) (pc' := 1439) rfl rfl rfl hz45 hr48 (fun c50 => ?_) (fun c50 => ?_)
    · clear hr48 hz45
      exact kk _ I0 (by first | exact d_tape.le j0 (Int.le_antisymm (by omega) (by omega)) (by omega) (fun j => rfl) (fun j => rfl) | (exfalso; omega)) (Int.le_antisymm (by omega) (by omega)) j2 (g_ti.e j3 rfl) (g_SH.e j4 rfl rfl rfl rfl rfl rfl) (Int.le_antisymm (by omega) (by omega))
    · clear hr48 hz45
      refine h_iconst (pc' := 1440) (x := (Int32.ofInt 0)) rfl rfl rfl ?_
      have gk := g_SH.ar j4 (k := 0) (by omega) (by omega)
      exfalso
      omega
  · refine h_aload_n (pc' := 86) rfl rfl rfl ?_
    refine h_getR (pc' := 89) rfl rfl rfl rfl rfl ?_
    refine h_getR (pc' := 92) rfl rfl rfl rfl rfl ?_
    refine h_iconst (pc' := 93) (x := (Int32.ofInt 0)) rfl rfl rfl ?_
    refine h_iald (pc' := 94) (v := s0 96 0) rfl rfl rfl ci_0 (by omega) (by omega) rfl (fun z51 hz51 => ?_)
    have tz51 := ty_96 I0 0
    refine h_iret rfl rfl (h_Kv ?_)
    clear hz2
    refine h_aload_n (pc' := 1428) rfl rfl rfl ?_
    refine h_aload_n (pc' := 1429) rfl rfl rfl ?_
    refine h_iload_n (pc' := 1430) rfl rfl rfl ?_
    refine h_iconst (pc' := 1431) (x := (Int32.ofInt 1)) rfl rfl rfl ?_
    refine h_iadd (pc' := 1432) rfl rfl hy3 ci_1 rfl (by omega) (by omega) (fun z52 hz52 => ?_)
    refine h_iald (pc' := 1433) (v := s0 0 (b3 + 1)) rfl rfl rfl hz52 (by omega) (by omega) rfl (fun z53 hz53 => ?_)
    have tz53 := h_rgv hz53
    clear hz52
    refine h_call (sp := false) (pc' := 1436) (M := [(0, .ref 98), (1, .int z53)]) rfl rfl rfl rfl rfl rfl rfl rfl ?_
    refine n_cnt _ I0 z53 _ hz53 (fun r54 br54 hr54 tr54 ps55_0 => h_Kv ?_)
    clear hz53
    refine h_ceq (tg := 1441) (pc' := 1439) rfl rfl rfl hz51 hr54 (fun c56 => ?_) (fun c56 => ?_)
    · clear hr54 hz51
      exact kk _ I0 (by first | exact d_tape.le j0 (Int.le_antisymm (by omega) (by omega)) (by omega) (fun j => rfl) (fun j => rfl) | (exfalso; omega)) (Int.le_antisymm (by omega) (by omega)) j2 (g_ti.e j3 rfl) (g_SH.e j4 rfl rfl rfl rfl rfl rfl) (Int.le_antisymm (by omega) (by omega))
    · clear hr54 hz51
      refine h_iconst (pc' := 1440) (x := (Int32.ofInt 0)) rfl rfl rfl ?_
      have gk := g_SH.ar j4 (k := 0) (by omega) (by omega)
      exfalso
      omega
  · refine h_aload_n (pc' := 96) rfl rfl rfl ?_
    refine h_getR (pc' := 99) rfl rfl rfl rfl rfl ?_
    refine h_call (sp := false) (pc' := 102) (M := [(0, .ref 10)]) rfl rfl rfl rfl rfl rfl rfl rfl ?_
    refine n_pl _ I0  (fun r57 br57 hr57 tr57 ps58_0 => h_Kv ?_)
    refine h_iret rfl rfl (h_Kv ?_)
    clear hz2
    refine h_aload_n (pc' := 1428) rfl rfl rfl ?_
    refine h_aload_n (pc' := 1429) rfl rfl rfl ?_
    refine h_iload_n (pc' := 1430) rfl rfl rfl ?_
    refine h_iconst (pc' := 1431) (x := (Int32.ofInt 1)) rfl rfl rfl ?_
    refine h_iadd (pc' := 1432) rfl rfl hy3 ci_1 rfl (by omega) (by omega) (fun z59 hz59 => ?_)
    refine h_iald (pc' := 1433) (v := s0 0 (b3 + 1)) rfl rfl rfl hz59 (by omega) (by omega) rfl (fun z60 hz60 => ?_)
    have tz60 := h_rgv hz60
    clear hz59
    refine h_call (sp := false) (pc' := 1436) (M := [(0, .ref 98), (1, .int z60)]) rfl rfl rfl rfl rfl rfl rfl rfl ?_
    refine n_cnt _ I0 z60 _ hz60 (fun r61 br61 hr61 tr61 ps62_0 => h_Kv ?_)
    clear hz60
    refine h_ceq (tg := 1441) (pc' := 1439) rfl rfl rfl hr57 hr61 (fun c63 => ?_) (fun c63 => ?_)
    · clear hr57 hr61
      exact kk _ I0 (by first | exact d_tape.le j0 (Int.le_antisymm (by omega) (by omega)) (by omega) (fun j => rfl) (fun j => rfl) | (exfalso; omega)) (Int.le_antisymm (by omega) (by omega)) j2 (g_ti.e j3 rfl) (g_SH.e j4 rfl rfl rfl rfl rfl rfl) (Int.le_antisymm (by omega) (by omega))
    · clear hr57 hr61
      refine h_iconst (pc' := 1440) (x := (Int32.ofInt 0)) rfl rfl rfl ?_
      have gk := g_SH.ar j4 (k := 0) (by omega) (by omega)
      have gc := ps58_0.trans (j2.cn rfl rfl)
      exfalso
      omega
